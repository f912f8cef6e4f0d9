import java.util.ArrayList;
import java.util.List;

/** What a watch answers to all that can be asked of it. It is spent then: the last questions change it. */
final class Exam {
    private static final int MOST_QUESTIONS = 390;

    private final DeepiceWatch w;
    private final List<String> answers = new ArrayList<>();

    private Exam(DeepiceWatch w) {
        this.w = w;
    }

    static List<String> of(DeepiceWatch w) {
        Exam exam = new Exam(w);
        exam.figures();
        exam.ice();
        exam.days();
        exam.pulses();
        exam.events();
        exam.clocks();
        exam.changes();
        Check.holds("an exam of " + exam.answers.size() + " questions", exam.answers.size() <= MOST_QUESTIONS);
        return exam.answers;
    }

    /** Returns whether there was an answer. */
    private boolean ask(String what, Check.Call call) {
        try {
            answers.add(what + " = " + call.make());
            return true;
        } catch (RuntimeException e) {
            answers.add(what + " throws " + e.getClass().getSimpleName());
            return false;
        }
    }

    private void figures() {
        ask("version", () -> w.version());
        ask("trials", () -> w.trials());
        ask("days", () -> w.days());
        ask("pulses", () -> w.pulses());
        ask("events", () -> w.events());
        ask("checksum", () -> w.checksum());
        ask("loudShare", () -> w.loudShare());
        ask("meanCharge", () -> w.meanCharge());
        ask("isSound", () -> w.isSound());
        ask("whether the sky is open", () -> w.vote(0, 0));
        for (int i = 0; i < 8; i++) {
            int bin = i;
            ask("trialsOf " + bin, () -> w.trialsOf(bin));
        }
    }

    private void ice() {
        for (int depth : new int[] {-1, 0, 5, 10, 20, 30, 45, 63, 64}) {
            ask("scatteringAt " + depth, () -> w.scatteringAt(depth));
            if (depth % 15 == 0) {
                ask("chargeAt " + depth, () -> w.chargeAt(0, 5, 5, depth, 9));
            }
        }
    }

    private void days() {
        for (int d = 0; d < 6; d++) {
            int day = d;
            boolean more = d == 0 || d == 1 || d == 5;
            for (int i = 0; more && i < 3; i++) {
                int index = i;
                more = ask("keptKind " + day + " " + index, () -> w.keptKind(day, index));
                for (char what : "fevi".toCharArray()) {
                    if (more) {
                        ask("keptAt " + day + " " + index + what, () -> w.keptAt(day, index, what));
                    }
                }
            }
        }
    }

    private void pulses() {
        boolean more = true;
        for (int i = 0; more && i < 6; i++) {
            int index = i;
            for (char what : "etoq".toCharArray()) {
                more = more && ask("pulseAt " + index + what, () -> w.pulseAt(index, what));
            }
        }
    }

    private void events() {
        boolean more = true;
        for (int i = 0; more && i < 5; i++) {
            int event = i;
            for (char what : "flneqk".toCharArray()) {
                more = more && ask("eventAt " + event + what, () -> w.eventAt(event, what));
            }
            if (more) {
                ask("placeOf " + event, () -> w.placeOf(event, 'z'));
                ask("speedOf " + event, () -> w.speedOf(event, 'z'));
                ask("kindOf " + event, () -> w.kindOf(event));
                ask("energyOf " + event, () -> w.energyOf(event));
                ask("isVetoed " + event, () -> w.isVetoed(event));
            }
        }
    }

    private void clocks() {
        boolean more = true;
        for (int i = 0; more && i < 25; i++) {
            int eye = i;
            more = ask("distance 0 " + eye, () -> w.distance(0, eye));
            if (more) {
                ask("mended " + eye, () -> w.mended(eye, 12345));
                ask("setEye " + eye, () -> w.setEye(eye, 'g'));
                ask("call " + eye, () -> w.call(eye, 999999));
                ask("setClock " + eye, () -> w.setClock(eye, 0, 0));
            }
        }
    }

    private void changes() {
        ask("seed", () -> w.seed(1));
        ask("setTrigger", () -> w.setTrigger(4, 500));
        ask("setPartner", () -> w.setPartner(20, 300));
        for (int i = 0; i < 6; i++) {
            int string = i;
            ask("setOuter " + string, () -> w.setOuter(string, false));
        }
        ask("addString", () -> w.addString(0, 0));
        ask("addEye", () -> w.addEye(0, 0));
        ask("setLayer", () -> w.setLayer(31, 0, 0));
        ask("noise", () -> w.noise(2));
        ask("look", () -> w.look(6));
        ask("takeBack", () -> w.takeBack(6));
        ask("redo", () -> w.redo(0));
        ask("closeDay", () -> w.closeDay());
        ask("days", () -> w.days());
    }
}
