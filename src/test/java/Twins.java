import java.util.List;

/** Two watches made alike, of which one refuses a call: what it answers afterwards is what the other one answers. */
final class Twins {
    interface Call {
        Object on(DeepiceWatch w);
    }

    private Twins() {
    }

    static void refused(String what, Class<? extends RuntimeException> due, Watches.Maker maker, Call call) {
        DeepiceWatch touched = maker.make();
        Check.thrown(what, due, () -> call.on(touched));
        alike(what + " changes nothing", touched, maker.make());
    }

    static void alike(String what, DeepiceWatch one, DeepiceWatch other) {
        List<String> got = Exam.of(one);
        List<String> due = Exam.of(other);
        Check.same(what + ": answers", got.size(), due.size());
        for (int i = 0; i < got.size() && i < due.size(); i++) {
            if (!got.get(i).equals(due.get(i))) {
                Check.holds(what + ": " + got.get(i) + ", due is " + due.get(i), false);
                return;
            }
        }
    }
}
