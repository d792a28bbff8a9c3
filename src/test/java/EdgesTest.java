/**
 * All promises: each sentence of the document by a test of its own, at its edges. A fault is told
 * with the sentence's words.
 */
public final class EdgesTest {

    public static void main(String[] args) {
        EdgesOfSteps.hold();
        EdgesOfClaims.hold();
        EdgesOfMends.hold();
        EdgesOfCalls.hold();
        EdgesOfRefusals.hold();
        Sentence.holdThatNoneIsLeft();
        Script.end();
    }
}
