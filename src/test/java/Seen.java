import java.util.ArrayList;
import java.util.List;

/** All that can be seen of a small room, but how many refusals there were. */
final class Seen {
    private final ManyEyes x;
    private final List<String> lines = new ArrayList<>();

    private Seen(ManyEyes x) {
        this.x = x;
    }

    static List<String> of(ManyEyes x) {
        Seen seen = new Seen(x);
        seen.shelves();
        seen.counts();
        seen.cases();
        seen.judges();
        return seen.lines;
    }

    private void add(String call, long answer) {
        lines.add(call + " = " + answer);
    }

    private void shelves() {
        for (int s = 0; s < 8; s++) {
            int held = x.holds(s);
            add("holds " + s, held);
            if (held >= 100) {
                for (int i = 0; i < 6; i++) {
                    add("element " + s + " " + i, x.element(s, i));
                }
            } else if (held >= 0) {
                add("countsIn " + s, x.countsIn(s));
            }
        }
    }

    private void counts() {
        for (int what = 0; what <= 10; what++) {
            add("status " + what, x.status(what));
        }
        add("status 18", x.status(18));
        for (int i = 0; i < 4; i++) {
            add("changed " + i, x.changed(i));
        }
    }

    private void cases() {
        for (int q = 0; q < x.status(1); q++) {
            for (int b = 0; b < 4; b++) {
                add("total " + q + " " + b, x.total(q, b));
            }
            for (int t = 0; t < x.status(0); t++) {
                String at = " " + t + " " + q;
                for (int b = 0; b < 4; b++) {
                    add("share" + at + " " + b, x.share(t, q, b));
                }
                for (int what = 0; what < 3; what++) {
                    add("is " + what + at, x.is(what, t, q) ? 1 : 0);
                }
                add("leading" + at, x.leading(t, q));
                add("looks" + at, x.looks(t, q));
                add("agreed" + at, x.agreed(t, q));
            }
        }
    }

    private void judges() {
        for (int j = 0; j < x.status(2); j++) {
            add("copied " + j, x.copied(j));
            // bottom() is 0 of one who has left alone; next() would be refused then.
            if (x.status(1) > 0 && x.bottom(j, 0, 0) > 0) {
                add("next " + j, x.next(j));
            }
            for (int q = 0; q < x.status(1); q++) {
                for (int b = 0; b < 3; b++) {
                    add("bottom " + j + " " + q + " " + b, x.bottom(j, q, b));
                    add("top " + j + " " + q + " " + b, x.top(j, q, b, b));
                }
                for (int t = 0; t < x.status(0); t++) {
                    add("how " + j + " " + t + " " + q, x.how(j, t, q));
                    add("gain " + j + " " + t + " " + q, x.gain(j, t, q));
                }
            }
        }
    }
}
