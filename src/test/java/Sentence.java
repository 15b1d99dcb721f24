import java.util.List;
import java.util.function.Function;
import java.util.function.Supplier;

/** One sentence of the document, and the answers that are due by it. */
final class Sentence {
    private final Due due;
    private final String name;

    Sentence(Due due, String name) {
        this.due = due;
        this.name = name;
    }

    void is(String what, Object got, Object want) {
        due.text(name + ": " + what, got.toString(), want.toString());
    }

    /** A refused call: what it answers, and that an object goes on behind it as one that never had it. */
    void refused(String call, Supplier<Issuer> situation, Function<Issuer, Object> refused, Object want) {
        for (Probe probe : Probe.values()) {
            Issuer with = situation.get();
            is(call, refused.apply(with), want);
            List<String> without = probe.answers(situation.get());
            List<String> behind = probe.answers(with);
            for (int i = 0; i < without.size(); i++) {
                is("behind " + call + ", " + probe + " " + i, behind.get(i), without.get(i));
            }
        }
    }
}
