/**
 * All that an object can be asked, in some 300 calls; it is of no use after that. What is asked first
 * can be chosen, so that a call that changes what only others show is seen, too.
 */
final class Probe {
    static final int ORDERS = 8;
    static final int TOTALS = 0, RANGES = 1, ANSWERS = 2, REASONS = 3, CELLS = 4, ABOUTS = 5, PROOF = 6, COUNT = 7;

    private final NarrowingKernel k;
    private final StringBuilder[] said = new StringBuilder[ORDERS + 1];
    private final int found;
    private StringBuilder here;

    private Probe(NarrowingKernel k, int found) {
        this.k = k;
        this.found = found;
    }

    /** The FINDINGS that were found on the way are left out of what is said. */
    static String of(NarrowingKernel k, int found, int first) {
        Probe probe = new Probe(k, found);
        for (int i = 0; i < ORDERS; i++) {
            probe.look((first + i) % ORDERS);
        }
        probe.here = new StringBuilder();
        probe.said[ORDERS] = probe.here;
        probe.changes();
        return String.join("", probe.said);
    }

    /** One part of what can be asked, and how many FINDINGS there were ahead of it. */
    static String of(NarrowingKernel k, int which) {
        Probe probe = new Probe(k, 0);
        int findings = k.total(4);
        probe.look(which);
        return findings + " " + probe.said[which];
    }

    private void say(String what, int answer) {
        here.append(what).append(answer).append(' ');
    }

    private void look(int which) {
        here = new StringBuilder();
        said[which] = here;
        switch (which) {
            case TOTALS: totals(); break;
            case RANGES: ranges(); break;
            case ANSWERS: answers(); break;
            case REASONS: reasons(); break;
            case CELLS: cells(); break;
            case ABOUTS: abouts(); break;
            case PROOF: proof(); break;
            default: say("count ", k.count(20000)); break;
        }
    }

    private void totals() {
        for (int what = 0; what < 6; what++) {
            if (what != 4) {
                say("total ", k.total(what));
            }
        }
    }

    private void ranges() {
        bits();
        for (int x = 0, told = 0; x < 10 && told >= 0; x++) {
            told = k.range(x, 4);
            say("told ", told);
        }
    }

    private void bits() {
        for (int x = 0, bits = 0; x < 10 && bits >= 0; x++) {
            bits = k.range(x, 3);
            say("range ", bits);
        }
    }

    private void answers() {
        for (int x = 0; x < 10; x++) {
            say("answer ", k.answer(x));
        }
    }

    private void reasons() {
        for (int i = 0, step = 0; i < 13 && step >= 0; i++) {
            step = k.reason(i);
            say("reason ", step);
        }
    }

    private void cells() {
        for (int t = 0; t < 6; t++) {
            for (int i = 0, cell = 0; i < 48 && cell >= 0; i++) {
                cell = k.get(t, i);
                say("cell ", cell);
            }
        }
    }

    private void abouts() {
        for (int r = 0; r < 7; r++) {
            say("takes ", k.takes(r));
            for (int what = 0; what < 3; what++) {
                say("about ", k.about(r, what));
            }
        }
    }

    private void proof() {
        say("check ", k.check());
        say("refutes ", k.refutes());
    }

    private void changes() {
        // as many FINDINGS by now, but for those that were found on the way
        say("total ", k.total(4) - found);
        say("next ", k.next());
        answers();
        say("core ", k.core());
        reasons();
        say("narrow ", k.narrow());
        for (int d = k.total(2); d >= 0; d--) {
            bits();
            say("undo ", k.undo(d));
        }
        ranges();
        say("solve ", k.solve());
        answers();
        for (int r = 0; r < 16; r++) {
            say("stood ", k.stand(r, true));
        }
        ranges();
        for (int l = 0; l < 4; l++) {
            say("literals ", k.says(l, 0, 3, 0));
        }
        for (int r = 0; r < 7; r++) {
            say("literals ", k.literal(r, 0, 3, 0));
            say("parts ", k.part(r, 2, 1, 0));
        }
        say("line ", k.line(NarrowingKernel.NONE));
        say("rule ", k.rule(1, 0, 0));
        say("unknown ", k.unknown(0, 0));
    }
}
