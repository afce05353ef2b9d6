import java.lang.annotation.ElementType;
import java.lang.annotation.Retention;
import java.lang.annotation.RetentionPolicy;
import java.lang.annotation.Target;

/** The words of DOC.md that a test makes the case of. */
@Retention(RetentionPolicy.RUNTIME)
@Target(ElementType.METHOD)
@interface Sentence {
    /** What stands in for the number of a promise if the words are those of the part 'Terms'. */
    int TERMS = 0;

    int promise() default TERMS;

    String[] value();
}
