/** Objects that are made anew by the same calls each time, for what must not change them. */
final class Worlds {
    static final String LAW = "risk water * 9 + old * 30 + step * (wind + 1) ; seen 90 - pace * 20 ; harm step * worth + 1 ;";

    private Worlds() {
    }

    /** Three PIECES, two MEN, a LAMP, THE VILLAGE is CALLED; THE TAPE has begun; one SHEET of each sort. */
    static WalkTheDike some() {
        WalkTheDike x = new WalkTheDike();
        x.piece(0, 10);
        x.piece(1, 20);
        x.piece(0, 30);
        x.set(1, 2, 1);
        x.lamp(2, 1);
        for (int h = 0; h < 12; h++) {
            x.water(h, 1 + h % 7);
        }
        x.night(2, 5);
        x.call(1);
        x.sheet(0, 0, 3);
        x.sheet(1, 1, 6);
        for (int i = 0; i < 6; i++) {
            x.cell(1, i, i);
        }
        Due.row(x, 2, 0, 1, 2, 3, 4, 5, 6, 7, 0, 1, 2, 3);
        x.man(1, 2, 10, 0);
        x.man(3, 10, 25, 2);
        Due.law(x, LAW);
        Due.feed(x, "risk 7");
        return x;
    }

    /** As much of all as there can be, and AN IMAGE of another time. */
    static WalkTheDike full() {
        WalkTheDike x = some();
        x.image();
        for (int p = 3; p < 8; p++) {
            x.piece(p % 2, 10 * p);
            x.set(p, 2, p % 4);
        }
        x.lamp(2, 0);
        x.lamp(5, 1);
        x.set(0, 1, 99);
        x.set(1, 0, 0);
        x.night(0, 12);
        x.night(1, 6);
        x.night(3, 2);
        x.night(4, 1);
        x.water(0, 9);
        x.call(3);
        x.man(4, 25, 20, 0);
        x.man(5, 70, 13, 0);
        x.man(2, 44, 10, 0);
        x.pace(0, 3);
        x.text();
        for (int t = 2; t < 6; t++) {
            Due.text(x, "risk " + t + ";seen 1" + t + ";harm step*" + t + ";");
        }
        x.force(3);
        for (int i = 0; i < 20; i++) {
            x.feed(0x6e6f742077696e64L, 8);
        }
        x.sheet(3, 2, 40);
        for (int i = 0; i < 40; i++) {
            x.cell(3, i, i % 8);
        }
        return x;
    }
}
