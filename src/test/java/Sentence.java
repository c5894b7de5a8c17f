import java.lang.annotation.Retention;
import java.lang.annotation.RetentionPolicy;

/** The words of the document that a test is of, as they stand there. */
@Retention(RetentionPolicy.RUNTIME)
@interface Sentence {
    String value();
}
