import java.lang.annotation.ElementType;
import java.lang.annotation.Retention;
import java.lang.annotation.RetentionPolicy;
import java.lang.annotation.Target;

/** The words of ../shared/DOC.md that a test would see broken, and the part that they stand in. */
@Retention(RetentionPolicy.RUNTIME)
@Target(ElementType.METHOD)
@interface Says {
    /** "Promise 1" to "Promise 34", "What it is", or the first word of a paragraph of the description. */
    String part();

    String quote();
}
