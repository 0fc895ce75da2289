import java.lang.annotation.ElementType;
import java.lang.annotation.Retention;
import java.lang.annotation.RetentionPolicy;
import java.lang.annotation.Target;

/** Which sentence of the document a test is of. */
@Retention(RetentionPolicy.RUNTIME)
@Target(ElementType.METHOD)
@interface Says {
  /** The number of the promise; 0: what the document says ahead of all promises. */
  int promise();

  /** The one of the Terms, I to IV, under which the words stand; else they stand under the promise itself. */
  String term() default "";

  /** The document's own words, or as many of them as tell the sentence from others. */
  String words();
}
