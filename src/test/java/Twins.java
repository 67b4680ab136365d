import java.util.List;
import java.util.function.Supplier;

/**
 * Calls on an object that has a twin, made by the same calls: if both answer everything alike
 * afterwards, then the call has changed nothing.
 */
final class Twins {
    private Twins() {
    }

    interface Call {
        long of(InkPrintery x);
    }

    interface CallWith {
        long of(InkPrintery x, int parameter);
    }

    /** The call is a question: it answers so, and nothing has changed. */
    static void answers(Supplier<InkPrintery> made, String call, long due, Call body) {
        InkPrintery touched = made.get();
        Check.due(call, body.of(touched), due);
        nothingChanged(call, touched, made.get());
    }

    /** The call is refused, and nothing has changed. */
    static void refuses(Supplier<InkPrintery> made, String call,
            Class<? extends RuntimeException> due, Call body) {
        InkPrintery touched = made.get();
        Check.refused(call, due, () -> body.of(touched));
        nothingChanged(call, touched, made.get());
    }

    /**
     * A parameter's range; a question mark stands for the parameter. Both ends are allowed; what
     * lies beyond them is refused, and nothing has changed.
     */
    static void range(Supplier<InkPrintery> made, String call, int least, int most,
            Class<? extends RuntimeException> due, CallWith body) {
        for (int end : new int[] {least, most}) {
            Check.allowed(call.replace("?", "" + end), () -> body.of(made.get(), end));
        }
        refusesOutside(made, call, least, most, due, body);
    }

    /** What lies beyond a parameter's range is refused, and nothing has changed. */
    static void refusesOutside(Supplier<InkPrintery> made, String call, int least, int most,
            Class<? extends RuntimeException> due, CallWith body) {
        int[] beyond = {least - 1, most + 1, Integer.MIN_VALUE, Integer.MAX_VALUE};
        for (int wrong : beyond) {
            refuses(made, call.replace("?", "" + wrong), due, x -> body.of(x, wrong));
        }
    }

    /** The text is malformed at this position; nothing but the error position has changed. */
    static void malformed(Supplier<InkPrintery> made, String text, int position) {
        InkPrintery touched = made.get();
        Fixtures.type(touched, text);
        Check.refused("execute() of \"" + text + "\"", Check.ARGUMENT, touched::execute);
        Check.due("errorPosition() of \"" + text + "\"", touched.errorPosition(), position);
        nothingElseChanged("errorPosition", text, touched, made.get());
    }

    /** The command of this index fails; nothing but the index has changed. */
    static void fails(Supplier<InkPrintery> made, String text, int index) {
        InkPrintery touched = made.get();
        Fixtures.type(touched, text);
        Check.refused("execute() of \"" + text + "\"", Check.STATE, touched::execute);
        Check.due("failedCommand() of \"" + text + "\"", touched.failedCommand(), index);
        nothingElseChanged("failedCommand", text, touched, made.get());
    }

    private static void nothingChanged(String call, InkPrintery touched, InkPrintery twin) {
        List<String> got = Answers.everything(touched);
        reportDifference("after " + call, got, Answers.everything(twin));
    }

    private static void nothingElseChanged(String name, String text, InkPrintery touched,
            InkPrintery twin) {
        List<String> got = Answers.everything(touched);
        List<String> due = Answers.everything(twin);
        got.removeIf(answer -> answer.startsWith(name));
        due.removeIf(answer -> answer.startsWith(name));
        reportDifference("after execute() of \"" + text + "\"", got, due);
    }

    private static void reportDifference(String when, List<String> got, List<String> due) {
        Check.due("the number of answers " + when, got.size(), due.size());
        for (int index = 0; index < Math.min(got.size(), due.size()); index++) {
            if (!got.get(index).equals(due.get(index))) {
                Check.report("the answer " + index + " " + when + " is " + got.get(index)
                        + ", due is " + due.get(index));
                return;
            }
        }
    }
}
