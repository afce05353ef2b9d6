import java.lang.annotation.ElementType;
import java.lang.annotation.Repeatable;
import java.lang.annotation.Retention;
import java.lang.annotation.RetentionPolicy;
import java.lang.annotation.Target;

/**
 * A change of the class that breaks the sentence of a test, so that the test must fail with it: the
 * first 'from' behind 'at' becomes 'to'. Comments are no part of the text that is changed, and each
 * run of blanks and line ends in it is one blank.
 */
@Retention(RetentionPolicy.RUNTIME)
@Target(ElementType.METHOD)
@Repeatable(Broken.All.class)
@interface Broken {
    /** Words that stand once in the class; the start of the file if there are none. */
    String at() default "";

    String from();

    String to() default "";

    @Retention(RetentionPolicy.RUNTIME)
    @Target(ElementType.METHOD)
    @interface All {
        Broken[] value();
    }
}
