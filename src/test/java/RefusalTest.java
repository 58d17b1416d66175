import java.util.ArrayList;
import java.util.List;

/**
 * "A call that reports an error changes nothing": behind every refused call the object answers as
 * another one does that was made the same way and never got that call.
 */
public final class RefusalTest {
    private static List<Call> questions() {
        List<Call> questions = new ArrayList<>();
        for (int system = 0; system < 2; system++) {
            for (int what = 0; what <= 4; what++) {
                questions.add(new Call("system", system, what));
            }
            for (int place = 0; place <= 12; place++) {
                questions.add(new Call("digitAt", system, place));
            }
            for (int residue = 0; residue < 10; residue++) {
                questions.add(new Call("chosen", system, residue));
            }
            for (int row = 0; row < 3; row++) {
                questions.add(new Call("value", system, row, 0));
                questions.add(new Call("value", system, row, 1));
            }
            questions.add(new Call("digit", system, 5, 7, 3));
            questions.add(new Call("cycleCount", system));
            questions.add(new Call("expansions", system, 5, 3));
            questions.add(new Call("carryCount", system));
        }
        for (int row = 0; row < 3; row++) {
            questions.add(new Call("size", row));
            for (int place = 0; place <= 12; place++) {
                questions.add(new Call("entry", row, place));
            }
        }
        return questions;
    }

    private static void changesNothing(Refusals.Refusal refusal, List<Call> questions) {
        NumerationSystems refused = refusal.state.make();
        NumerationSystems other = refusal.state.make();
        refusal.call.on(refused);
        for (Call question : questions) {
            Check.due("behind " + refusal + ": " + question, question.on(other), question.on(refused));
        }
    }

    /** The calls that change a state, each of them refused again and again among calls that go through. */
    private static void amongOthers() {
        NumerationSystems x = State.PLAIN.make();
        NumerationSystems other = State.PLAIN.make();
        Call[] changes = {new Call("addDigit", 0, -1), new Call("removeDigit", 0, 9), new Call("choose", 0, -1),
            new Call("push", 0, 9), new Call("add", 1, 0, 1, 2), new Call("multiply", 1, 2, 5, 1),
            new Call("setBase", 1, -3, 2), new Call("load", 1, 50, 0), new Call("convert", 1, 0, 2), new Call("clear", 1)};
        Call[] refusals = {new Call("addDigit", 0, 0), new Call("removeDigit", 0, 15), new Call("choose", 1, 15),
            new Call("push", 0, 21), new Call("add", 0, 0, 3, 1), new Call("multiply", 0, 0, 101, 0),
            new Call("setBase", 0, 6, 4), new Call("load", 0, 100001, 0), new Call("convert", 0, 3, 0), new Call("clear", 3)};
        for (Call change : changes) {
            for (Call refused : refusals) {
                Check.holds(refused + " is refused", refused.on(x) < -1000000);
            }
            Check.due(change + " among refused calls", change.on(other), change.on(x));
        }
        for (Call question : questions()) {
            Check.due("among refused calls: " + question, question.on(other), question.on(x));
        }
    }

    public static void main(String[] args) {
        List<Call> questions = questions();
        for (Refusals.Refusal refusal : Refusals.all()) {
            changesNothing(refusal, questions);
        }
        amongOthers();
        Check.finish("RefusalTest");
    }
}
