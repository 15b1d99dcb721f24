import java.util.ArrayList;
import java.util.List;

/** Runs of calls whose answers tell apart two objects that differ in anything that is promised. */
enum Probe {
    /** The latest response, and what watchers and workloads are told. */
    TOLD {
        @Override
        void run(Issuer x, List<String> answers) {
            response(x, answers, 3);
            for (int p = 0; p < 82; p++) {
                note(answers, "written(0, " + p + ")", x.written(0, p));
            }
            for (int round = 0; round < 2; round++) {
                for (int w = 0; w < 5; w++) {
                    note(answers, "poll(" + w + ")", x.poll(w));
                    response(x, answers, 1);
                }
            }
            for (int a = 0; a < 4; a++) {
                note(answers, "fetch(" + a + ", 7)", x.fetch(a, 7));
                response(x, answers, 2);
            }
        }
    },
    /** The buffer, IDs, entries, foreign bundles, and the numbers that come next. */
    THERE {
        @Override
        void run(Issuer x, List<String> answers) {
            note(answers, "put", x.put('e' << 8 | 'w', 2));
            note(answers, "id() of what is in the buffer", x.id());
            for (String text : new String[] {"spiffe://o", "spiffe://o/a", "spiffe://o/d", "spiffe://o/3", "spiffe://o/y"}) {
                note(answers, "id of " + text, x.id(text));
            }
            for (int k = 0; k < 4; k++) {
                note(answers, "foreign(" + k + ", true)", x.foreign(k, true));
            }
            note(answers, "entry", x.entry(3, 2, 1, 5, 0));
            for (int e = 0; e < 61; e++) {
                note(answers, "remove(" + e + ")", x.remove(e));
            }
            note(answers, "entry", x.entry(4, 2, 1, 5, 0));
            note(answers, "sync(0)", x.sync(0));
            note(answers, "watch(0, 1)", x.watch(0, 1));
            note(answers, "attest(6, 1)", x.attest(6, 1));
            note(answers, "attest(2, 1)", x.attest(2, 1));
            note(answers, "fetch(0, 1)", x.fetch(0, 1));
        }
    },
    /** How many bytes the buffer still takes. */
    ROOM {
        @Override
        void run(Issuer x, List<String> answers) {
            int room = 0;
            while (room <= 100 && x.put('x', 1)) {
                room++;
            }
            note(answers, "room in the buffer", room);
            note(answers, "id() of a full buffer", x.id());
        }
    },
    /** Keys, clock and serials, and what agents get as time goes on. */
    NEXT {
        @Override
        void run(Issuer x, List<String> answers) {
            note(answers, "verify() of what is in the buffer", x.verify());
            note(answers, "tick(1)", x.tick(1));
            agents(x, answers);
            for (int key = 0; key < 6; key++) {
                int[] bytes = Forge.certificate(7 + key, key, 0, 9999, "spiffe://o");
                note(answers, "verify by key " + key, x.verify(bytes));
            }
            note(answers, "activate()", x.activate());
            note(answers, "prepare()", x.prepare());
            x.tick(24);
            agents(x, answers);
            note(answers, "activate()", x.activate());
            x.tick(6);
            agents(x, answers);
            note(answers, "prepare()", x.prepare());
            note(answers, "activate()", x.activate());
        }

        private void agents(Issuer x, List<String> answers) {
            for (int a = 0; a < 4; a++) {
                note(answers, "sync(" + a + ")", x.sync(a));
                note(answers, "fetch(" + a + ", -1)", x.fetch(a, -1));
                response(x, answers, 1);
            }
        }
    };

    abstract void run(Issuer x, List<String> answers);

    List<String> answers(Issuer x) {
        List<String> answers = new ArrayList<>();
        run(x, answers);
        return answers;
    }

    private static void note(List<String> answers, String call, Object answer) {
        answers.add(call + " = " + answer);
    }

    private static void response(Issuer x, List<String> answers, int certificates) {
        for (int k = 0; k < certificates; k++) {
            for (int what = 0; what < (certificates > 1 ? 5 : 2); what++) {
                note(answers, "svid(" + k + ", " + what + ")", x.svid(k, what));
            }
        }
        for (int k = 0; k < certificates + 1; k++) {
            note(answers, "key(" + k + ")", x.key(k));
        }
        note(answers, "friends()", x.friends());
    }
}
