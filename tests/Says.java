import java.lang.annotation.ElementType;
import java.lang.annotation.Retention;
import java.lang.annotation.RetentionPolicy;
import java.lang.annotation.Target;

/** Which words of the document a test holds the program to. */
@Retention(RetentionPolicy.RUNTIME)
@Target(ElementType.METHOD)
@interface Says {
    /** "Promise 7", "Terms 2" (its part ==== 2), "What it is": where they stand. */
    String at();

    String words();

    /** Of words that stand ahead of the promises: the numbers of those that the test looks at. */
    int[] promises() default {};
}
