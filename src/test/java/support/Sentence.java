import java.lang.annotation.Retention;
import java.lang.annotation.RetentionPolicy;

/** The sentence of the document whose boundary a test method tries, and the promise that it is of. */
@Retention(RetentionPolicy.RUNTIME)
@interface Sentence {
    int promise();

    String value();
}
