import java.nio.file.Files;
import java.nio.file.Path;
import java.util.ArrayList;
import java.util.List;
import java.util.regex.Matcher;
import java.util.regex.Pattern;

/** The document's text, part by part, to look up the words that a test says it is of. */
final class Document {
  private static final Path PLACE = Path.of("../shared/DOC.md");
  private static final Pattern REFUSALS =
      Pattern.compile("(NONE|NOTHING|Long\\.MIN_VALUE|-1|false): .*|NoSuchElementException if .*");

  private final String text;

  Document() throws java.io.IOException {
    text = Files.readString(PLACE);
  }

  private static String oneLine(String text) {
    return text.replaceAll("\\s+", " ").trim();
  }

  private String between(String from, String to) {
    Matcher part = Pattern.compile("(?ms)" + from + "(.*?)" + to).matcher(text);
    return part.find() ? oneLine(part.group(1)) : "";
  }

  /** Where the words of a test must stand. */
  private String part(int promise, String term) {
    switch (term) {
      case "": return promise == 0 ? between("^## What it is", "^## ") : ofPromise(promise);
      case "I": return between("^I\\. ", "^II\\. ");
      case "II": return between("^II\\. ", "^III\\. ");
      case "III": return between("^III\\. ", "^IV\\. ");
      case "IV": return between("^IV\\. ", "^## ");
      default: return "";
    }
  }

  /** What is said under a promise, without the line of its face. */
  private String ofPromise(int number) {
    return between("^## Promise " + number + ": .*?`: ", "^## ");
  }

  boolean has(Says says) {
    return part(says.promise(), says.term()).contains(says.words());
  }

  /** What is left of a promise's refusals when the words of its tests are taken away. */
  List<String> untested(int number, List<String> words) {
    Matcher refusals = REFUSALS.matcher(ofPromise(number));
    return refusals.find() ? without(refusals.group(), words) : List.of();
  }

  /** What is left of a promise, or of one of the Terms, likewise. */
  List<String> rest(int promise, String term, List<String> words) {
    return without(part(promise, term), words);
  }

  private static List<String> without(String part, List<String> words) {
    char[] left = part.toCharArray();
    for (String word : words) {
      for (int at = part.indexOf(word); at >= 0; at = part.indexOf(word, at + 1)) {
        for (int i = at; i < at + word.length(); i++) {
          left[i] = '|';
        }
      }
    }
    List<String> rest = new ArrayList<>();
    for (String piece : new String(left).split("\\|+")) {
      if (piece.matches(".*[A-Za-z0-9].*")) {
        rest.add(piece.trim());
      }
    }
    return rest;
  }
}
