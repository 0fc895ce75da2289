/-! coordinates -/
theorem tnd_s (v : Int64) (b : Int32) : Tnd v b = v * Sgn b := by
  unfold Tnd Sgn
  by_cases c : b = 0
  · rw [if_pos c, if_pos c, Int64.mul_one]
  · rw [if_neg c, if_neg c]; grind
theorem e_u0 {q t : Nat → Int32} {l i : Int32} {k : Nat} (h : k < 40) : mU0 q t l i k = cU0 q l (Tm t i) (Tn t i) k := by
  unfold mU0 cU0 Mt_u0 Tr_ux
  rw [m_c k h, m_s h, m_e h, m_x h, m_y h]
  show _ - (Int32.toInt64 (Tn t i) * _) * _ = _
  unfold Tm Tn
  grind
theorem e_u1 {q t : Nat → Int32} {l i : Int32} {k : Nat} (h : k < 40) : mU1 q t l i k = cU1 q l (Tm t i) (Tn t i) k := by
  unfold mU1 cU1 Mt_u1 Tr_uy
  rw [m_d k h, m_s h, m_e h, m_x h, m_y h]
  unfold Tm Tn
  grind
theorem e_v0 {q t : Nat → Int32} {l i b : Int32} {k : Nat} (h : k < 40) : mV0 q t l i b k = cV0 q l (Tm t i) (Tn t i) b k := by
  unfold mV0 cV0 Mt_v0 Tr_vx
  rw [tnd_s, m_x h, m_y h]
  unfold Tm Tn
  grind
theorem e_v1 {q t : Nat → Int32} {l i b : Int32} {k : Nat} (h : k < 40) : mV1 q t l i b k = cV1 q l (Tm t i) (Tn t i) b k := by
  unfold mV1 cV1 Mt_v1 Tr_vy
  rw [tnd_s, m_x h, m_y h]
  unfold Tm Tn
  grind
theorem e_wd {q : Nat → Int32} {l : Int32} {k : Nat} (h : k < 40) : mWd q l k = cW q l k := by
  unfold mWd cW pS
  rw [m_s h, m_n k h]
theorem mx_cx {q t : Nat → Int32} {l i b : Int32} {k : Nat} (hB : okB q l) (h : k < 40) (hL : lawP q l k) (hm : t20 (Tm t i)) (hn : t20 (Tn t i)) : mX q t l i b k = cX q l (Tm t i) (Tn t i) b k := by
  unfold mX cX
  rw [(cX_ok b hB h hL hm hn).2.2.1, e_u0 h, e_v0 h, e_wd h, m_k h]
theorem my_cy {q t : Nat → Int32} {l i b : Int32} {k : Nat} (hB : okB q l) (h : k < 40) (hL : lawP q l k) (hm : t20 (Tm t i)) (hn : t20 (Tn t i)) : mY q t l i b k = cY q l (Tm t i) (Tn t i) b k := by
  unfold mY cY
  rw [(cY_ok b hB h hL hm hn).2.2.1, e_u1 h, e_v1 h, e_wd h, m_k h]
theorem m_okS {q t : Nat → Int32} {l i b : Int32} {k : Nat} (hB : okB q l) (h : k < 40) (hL : lawP q l k) (hm : t20 (Tm t i)) (hn : t20 (Tn t i)) : okS (mV0 q t l i b k) (Ml_k q l (nI k)) ∧ okS (mV1 q t l i b k) (Ml_k q l (nI k)) ∧ 0 < mWd q l k := by
  have a := cX_ok b hB h hL hm hn
  have c := cY_ok b hB h hL hm hn
  rw [e_v0 h, e_v1 h, e_wd h, m_k h]
  exact ⟨a.1, c.1, a.2.1⟩
/-- the joint is what a tracer ten along would trace -/
theorem j_u0 {q : Nat → Int32} {l : Int32} {k : Nat} (h : k < 40) : 10 * Mj_u0 (Ml_c (nI k)) (Ml_s q l (nI k)) (Ml_e q l (nI k)) (Ml_x q l (nI k)) (Int32.toInt64 (Ba q l)) = cU0 q l 10 0 k := by
  unfold Mj_u0 cU0 Tr_ux pS pE pX pY
  rw [m_c k h, m_s h, m_e h, m_x h, show Int32.toInt64 10 = 10 from rfl, show Int32.toInt64 0 = 0 from rfl]
  grind
theorem j_u1 {q : Nat → Int32} {l : Int32} {k : Nat} (h : k < 40) : 10 * Mj_u1 (Ml_d (nI k)) (Ml_s q l (nI k)) (Ml_e q l (nI k)) (Ml_y q l (nI k)) (Int32.toInt64 (Ba q l)) = cU1 q l 10 0 k := by
  unfold Mj_u1 cU1 Tr_uy pS pE pX pY
  rw [m_d k h, m_s h, m_e h, m_y h, show Int32.toInt64 10 = 10 from rfl, show Int32.toInt64 0 = 0 from rfl]
  grind
theorem j_v0 {q : Nat → Int32} {l b : Int32} {k : Nat} (h : k < 40) : 10 * Mj_v0 (Ml_y q l (nI k)) b = cV0 q l 10 0 b k := by
  unfold Mj_v0 cV0 Tr_vx pX pY
  rw [tnd_s, m_y h, show Int32.toInt64 10 = 10 from rfl, show Int32.toInt64 0 = 0 from rfl]
  grind
theorem j_v1 {q : Nat → Int32} {l b : Int32} {k : Nat} (h : k < 40) : 10 * Mj_v1 (Ml_x q l (nI k)) b = cV1 q l 10 0 b k := by
  unfold Mj_v1 cV1 Tr_vy pX pY
  rw [tnd_s, m_x h, show Int32.toInt64 10 = 10 from rfl, show Int32.toInt64 0 = 0 from rfl]
  grind
/-! force -/
theorem f_u {q : Nat → Int32} {l : Int32} {k : Nat} (h : k < 40) : Mf_u (Ml_n (nI k)) (Ml_s q l (nI k)) q l = Fo_u (Ps_n (nI k)) (Ps_s (Bg q l) (Ba q l) (nI k)) (Int32.toInt64 (Bb q l)) (Int32.toInt64 (Bc q l)) := by
  unfold Mf_u Fo_u
  rw [m_n k h, m_s h]
theorem f_l {q : Nat → Int32} {l : Int32} {k : Nat} (h : k < 40) : 2 * Int32.toInt64 (Bb q l) * Int32.toInt64 (Bc q l) * Ml_n (nI k) = Fo_l (Ps_n (nI k)) (Int32.toInt64 (Bb q l)) (Int32.toInt64 (Bc q l)) := by
  unfold Fo_l
  rw [m_n k h]
/-! counts -/
theorem cn_cong {p p' : Nat → Bool} : ∀ n, (∀ k, k < n → p k = p' k) → Cn p n = Cn p' n
  | 0, _ => rfl
  | n + 1, h => by
    have ih := cn_cong n (fun k hk => h k (by omega))
    by_cases c : p n = true
    · rw [cn_t c, cn_t ((h n (by omega)).symm.trans c), ih]
    · rw [cn_f c, cn_f (by rw [← h n (by omega)]; exact c), ih]
theorem st_law {q : Nat → Int32} {l : Int32} {k : Nat} : (1 ≤ stA q l k ↔ lawP q l k) ∧ (2 ≤ stA q l k ↔ (lawP q l k ∧ Ps_k (Bg q l) (Ba q l) (Bb q l) (Bc q l) (nI k) = 0)) := by
  unfold stA Ps_state lawP
  by_cases c : 0 < Ps_s (Bg q l) (Ba q l) (nI k) ∧ 0 ≤ Ps_k (Bg q l) (Ba q l) (Bb q l) (Bc q l) (nI k)
  · rw [if_pos c]
    by_cases z : Ps_k (Bg q l) (Ba q l) (Bb q l) (Bc q l) (nI k) = 0
    · rw [if_pos z]; exact ⟨⟨fun _ => c, fun _ => by decide⟩, ⟨fun _ => ⟨c, z⟩, fun _ => by decide⟩⟩
    · rw [if_neg z]; exact ⟨⟨fun _ => c, fun _ => by decide⟩, ⟨fun y => absurd y (by decide), fun y => absurd y.2 z⟩⟩
  · rw [if_neg c]; exact ⟨⟨fun y => absurd y (by decide), fun y => absurd y c⟩, ⟨fun y => absurd y (by decide), fun y => absurd y.1 c⟩⟩
theorem e_lawfuls {q : Nat → Int32} {l : Int32} : Cn (fun j => decide (1 ≤ stA q l j)) 40 = Cn (fun j => decide (0 < Ml_s q l (nI j) ∧ 0 ≤ Ml_k q l (nI j))) 40 :=
  cn_cong 40 (fun k h => decide_eq_decide.mpr (st_law.1.trans (law_mp h).symm))
theorem dead_mp {q : Nat → Int32} {l : Int32} {k : Nat} (h : k < 40) : 2 ≤ stA q l k ↔ (lawM q l k ∧ Ml_k q l (nI k) = 0) := by
  constructor
  · intro z
    have y := st_law.2.mp z
    exact ⟨(law_mp h).mpr y.1, (m_k h).trans y.2⟩
  · intro z
    exact st_law.2.mpr ⟨(law_mp h).mp z.1, (m_k h).symm.trans z.2⟩
theorem e_deads {q : Nat → Int32} {l : Int32} : Cn (fun j => decide (2 ≤ stA q l j)) 40 = Cn (fun j => decide ((0 < Ml_s q l (nI j) ∧ 0 ≤ Ml_k q l (nI j)) ∧ Ml_k q l (nI j) = 0)) 40 :=
  cn_cong 40 (fun k h => decide_eq_decide.mpr (dead_mp h))
