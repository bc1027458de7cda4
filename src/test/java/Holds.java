import java.lang.annotation.ElementType;
import java.lang.annotation.Retention;
import java.lang.annotation.RetentionPolicy;
import java.lang.annotation.Target;

/** The sentence of the document that a test holds. */
@Retention(RetentionPolicy.RUNTIME)
@Target(ElementType.METHOD)
@interface Holds {
  /** Where it stands: "Promise 7", "Terms 4", "Terms" or "What it is". */
  String in();

  /** Its words, or those of them that name the case. */
  String says();
}
