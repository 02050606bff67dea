import java.util.ArrayList;
import java.util.List;
import java.util.function.Supplier;

/**
 * All that can be seen of an object from outside, as a row of numbers. To see it changes an object, and
 * an object is good for 512 calls: so each look is at a new one on which the same was called.
 */
final class Seen {
    private static final int AT_ONCE = 12;
    private final List<Long> seen = new ArrayList<>();
    private final Supplier<WalkTheDike> world;

    private Seen(Supplier<WalkTheDike> world) {
        this.world = world;
    }

    static List<Long> of(Supplier<WalkTheDike> world) {
        Seen all = new Seen(world);
        all.numbers(world.get());
        all.texts(world.get());
        all.tape(world.get());
        WalkTheDike back = world.get();
        all.add(back.back());
        all.numbers(back);
        for (int s = 0; s < 4; s++) {
            all.sheet(s);
        }
        return all.seen;
    }

    private void add(long number) {
        seen.add(number);
    }

    private void numbers(WalkTheDike x) {
        for (int what = 0; what < 10; what++) {
            add(x.count(what));
        }
        for (int m = 0; m < x.count(6); m++) {
            for (int what = 0; what < 17; what++) {
                add(x.manTold(m, what));
            }
        }
        for (int h = 0; h < x.count(0); h++) {
            add(x.looked(h));
        }
        add(x.run(0));
        add(x.drawn(5, 0));
        add(x.call(-1));
        for (int h = 0; h < 12; h++) {
            add(x.water(h, 0));
        }
        for (int p = 0; p < x.count(5); p++) {
            add(x.lamp(p, 0));
            for (int what = 0; what < 3; what++) {
                add(x.set(p, what, 0));
            }
        }
    }

    private void texts(WalkTheDike x) {
        x.piece(1, 7);
        x.night(2, 3);
        for (int t = 0; t < x.count(7); t++) {
            x.force(t);
            told(x);
        }
    }

    private void tape(WalkTheDike x) {
        x.piece(1, 7);
        int t = x.text();
        add(t);
        add(x.count(9));
        if (t > 0) {
            x.force(t);
            told(x);
        }
    }

    private void told(WalkTheDike x) {
        for (int part = 0; part < 3; part++) {
            for (int step = 0; step < 4; step++) {
                add(x.asks(part, 0, 2 * step, step, 3 - step));
            }
        }
    }

    private void sheet(int s) {
        WalkTheDike x = world.get();
        int sort = 0;
        while (sort < 3 && x.piecesBy(s, sort, 0, 0) != 0) {
            sort++;
        }
        add(sort);
        if (sort == 3) {
            return;
        }
        int size = 0;
        while (x.copy(s, 0, s, 0, size + 1) > 0) {
            size++;
        }
        add(size);
        for (int i = 0; i < size; i += AT_ONCE) {
            cells(s, sort, i, Math.min(AT_ONCE, size - i));
        }
    }

    private void cells(int s, int sort, int from, int n) {
        WalkTheDike x = world.get();
        int other = (s + 1) % 4;
        while (x.count(5) < 8) {
            x.piece(0, 0);
        }
        x.night(0, 2);
        x.sheet(other, sort, 2);
        for (int i = from; i < from + n; i++) {
            add(near(x, s, i, other));
        }
    }

    /**
     * By another SHEET of the same sort, that tells eight PIECES of two hours: which of them a number of
     * a SHEET is near to, as bits. So 0 .. 7 are told apart; of all others there is none.
     */
    static int near(WalkTheDike x, int s, int i, int other) {
        x.copy(s, i, other, 1, 1);
        int near = 0;
        for (int k = 0; k < 8; k++) {
            x.cell(other, 0, k);
            near |= x.judge(other, 1) == -1 ? 1 << k : 0;
        }
        return near;
    }
}
