import java.util.ArrayList;
import java.util.Comparator;
import java.util.List;

/** A curve as points (x, y, number of the angle), for the model. */
final class ModelCurve {
  final List<int[]> points = new ArrayList<>();

  ModelCurve(Model model, int l, int[] tracer, int branch) {
    for (int k : model.lawfulAngles(l)) {
      Surd[] at = new ModelSpot(model, l, k).traced(tracer, branch);
      points.add(new int[] {at[0].floor(), at[1].floor(), k});
    }
  }

  int box(int what) {
    Comparator<int[]> order = Comparator.comparingInt(p -> p[what / 2]);
    return (what % 2 == 0 ? points.stream().min(order) : points.stream().max(order)).get()[what / 2];
  }

  private int[] at(int i) {
    return points.get(i % points.size());
  }

  long area() {
    long sum = 0;
    for (int i = 0; i < points.size(); i++) {
      sum += (long) at(i)[0] * at(i + 1)[1] - (long) at(i + 1)[0] * at(i)[1];
    }
    return sum;
  }

  int crossings() {
    int n = points.size();
    int found = 0;
    for (int i = 0; i < n; i++) {
      for (int j = i + 1; j < n; j++) {
        boolean shared = i == j || (i + 1) % n == j || (j + 1) % n == i || (i + 1) % n == (j + 1) % n;
        if (!shared && cut(at(i), at(i + 1), at(j), at(j + 1))) {
          found++;
        }
      }
    }
    return found;
  }

  /** Where both lines meet, as parts of each edge. */
  private static boolean cut(int[] a, int[] b, int[] c, int[] d) {
    long rx = b[0] - a[0];
    long ry = b[1] - a[1];
    long sx = d[0] - c[0];
    long sy = d[1] - c[1];
    long det = rx * sy - ry * sx;
    if (det == 0) {
      return false;
    }
    long qx = c[0] - a[0];
    long qy = c[1] - a[1];
    return inner(Frac.of(qx * sy - qy * sx, det)) && inner(Frac.of(qx * ry - qy * rx, det));
  }

  private static boolean inner(Frac part) {
    return part.signum() > 0 && part.compareTo(Frac.ONE) < 0;
  }

  private static long side(int[] a, int[] b, int[] p) {
    return (long) (b[0] - a[0]) * (p[1] - a[1]) - (long) (b[1] - a[1]) * (p[0] - a[0]);
  }

  private static long square(int[] a, int[] b) {
    return (long) (a[0] - b[0]) * (a[0] - b[0]) + (long) (a[1] - b[1]) * (a[1] - b[1]);
  }

  /** Around the points, from each corner to that which has none on its right. */
  List<int[]> hull() {
    List<int[]> places = new ArrayList<>();
    for (int[] p : points) {
      if (places.stream().noneMatch(o -> square(o, p) == 0)) {
        places.add(p);
      }
    }
    List<int[]> hull = new ArrayList<>();
    if (places.isEmpty()) {
      return hull;
    }
    int[] first = places.stream()
        .min(Comparator.comparingInt((int[] p) -> p[0]).thenComparingInt(p -> p[1])).get();
    int[] from = first;
    do {
      hull.add(from);
      int[] to = from;
      for (int[] p : places) {
        if (p != from && (to == from || side(from, to, p) < 0
            || side(from, to, p) == 0 && square(from, p) > square(from, to))) {
          to = p;
        }
      }
      from = to;
    } while (from != first && hull.size() <= 40);
    return hull;
  }

  long hullArea() {
    List<int[]> hull = hull();
    long sum = 0;
    for (int i = 1; i + 1 < hull.size(); i++) {
      sum += side(hull.get(0), hull.get(i), hull.get(i + 1));
    }
    return sum;
  }

  /** How many points, and the angle of the first. */
  int[] straight(int h) {
    int[] found = {0, -2};
    for (int i = 0; i < points.size(); i++) {
      for (int j = i; j < points.size(); j++) {
        if (j - i + 1 > found[0] && isStraight(points.subList(i, j + 1), h)) {
          found = new int[] {j - i + 1, points.get(i)[2]};
        }
      }
    }
    return found;
  }

  private static boolean isStraight(List<int[]> row, int h) {
    int[] first = row.get(0);
    int[] last = row.get(row.size() - 1);
    long length = square(first, last);
    for (int[] p : row) {
      Frac far = length == 0 ? Frac.of(square(first, p))
          : Frac.of(side(first, last, p)).times(side(first, last, p)).by(Frac.of(length));
      if (far.compareTo(Frac.of((long) h * h)) > 0) {
        return false;
      }
    }
    return true;
  }

  List<int[]> byMiss(int[] point) {
    List<int[]> sorted = new ArrayList<>(points);
    sorted.sort(Comparator.comparingLong(p -> square(p, point)));
    return sorted;
  }

  long leastMiss(int[] point) {
    return points.stream().mapToLong(p -> square(p, point)).min().getAsLong();
  }
}
