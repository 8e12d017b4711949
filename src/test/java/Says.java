import java.lang.annotation.Retention;
import java.lang.annotation.RetentionPolicy;

/** The words of the document that a test is of: those of a promise, or (0) those under "Terms". */
@Retention(RetentionPolicy.RUNTIME)
@interface Says {
    int promise();
    String words();
}
