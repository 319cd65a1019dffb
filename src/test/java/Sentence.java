import java.lang.annotation.ElementType;
import java.lang.annotation.Retention;
import java.lang.annotation.RetentionPolicy;
import java.lang.annotation.Target;

/** The sentence of the document whose edges a test holds, or a part of that sentence. */
@Retention(RetentionPolicy.RUNTIME)
@Target(ElementType.METHOD)
@interface Sentence {
    /** The number of the promise that says it, 0 for the terms, -1 for what stands ahead of them. */
    int of() default 0;

    String says();
}
