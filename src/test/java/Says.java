import java.lang.annotation.Retention;
import java.lang.annotation.RetentionPolicy;

/** The words of the document that a test is for. */
@Retention(RetentionPolicy.RUNTIME)
@interface Says {
    String value();

    /** Under which promise they stand; 0: ahead of the promises. */
    int promise() default 0;
}
