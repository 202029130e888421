/** The Terms on the light at a pixel and the colour that it gives, at one solid piece. */
public final class LightTest {
    private static final Due due = new Due();

    public static void main(String[] args) {
        lightGoesByR();
        theLightIsTheGreatestWholeNumberNotAbove();
        numbersAreLitOneByOne();
        eachNumberIsTheGreatestNotAbove();
        lightHasEdges();
        theGreatestNumbersFit();
        due.end();
    }

    private static void lightGoesByR() {
        due.says("Terms: l DIV(w0 * r0 * l0 + w1 * r1 * l1 + w2 * r2 * l2, h)");
        TileDesk desk = Desks.leaning(new int[] {100, 700, 100}, new int[] {0, 65536, 0});
        due.is("light at 0, 0", desk.pixel(0, 0), 0);
        // One sixth of the way: 700 * 65536 / 1200 = 38229.3; 255 * 38229 / 65536 = 148.7.
        due.is("light at 1, 0", desk.pixel(1, 0), 148 * 0x010101);
        // Half of the way: 2100 * 65536 / 2400 = 57344; 255 * 57344 / 65536 = 223.1.
        due.is("light at 3, 0", desk.pixel(3, 0), 223 * 0x010101);
        due.is("light at 0, 3", desk.pixel(0, 3), 0);
        TileDesk down = Desks.leaning(new int[] {100, 100, 700}, new int[] {0, 0, 65536});
        due.is("light at 0, 3 of the piece that is lit below", down.pixel(0, 3), 223 * 0x010101);
        TileDesk first = Desks.leaning(new int[] {700, 100, 100}, new int[] {65536, 0, 0});
        due.is("light at 3, 0 of the piece that is lit at first", first.pixel(3, 0), 223 * 0x010101);
    }

    private static void theLightIsTheGreatestWholeNumberNotAbove() {
        due.says("Terms: DIV(a, b): the greatest whole number that is not above a / b, in the light");
        // 255 * 257 = 65535 gives 0, and 258 would give 1.
        TileDesk desk = Desks.leaning(new int[] {9, 9, 9}, new int[] {257, 258, 258});
        for (int i = 0; i < 6; i++) {
            due.is("a little below 258, at " + i + ", 0", desk.pixel(i, 0), 0);
        }
        TileDesk other = Desks.leaning(new int[] {9, 9, 9}, new int[] {258, 259, 258});
        for (int i = 0; i < 6; i++) {
            due.is("258 or a little above, at " + i + ", 0", other.pixel(i, 0), 0x010101);
        }
    }

    private static int lit(int tint, int light) {
        TileDesk desk = new TileDesk(8, 8);
        Desks.wideText(desk, 1000, light);
        desk.add(tint, 255);
        Desks.beginAndDrawAll(desk);
        return desk.pixel(5, 5);
    }

    private static void numbersAreLitOneByOne() {
        due.says("Terms: its colour number by number DIV(that of the tint * l, 65536)");
        due.is("a fourth of the light", lit(0x408004, 16384), 0x102001);
        due.is("red alone", lit(Desks.RED, 32768), 0x7F0000);
        due.is("green alone", lit(Desks.GREEN, 32768), 0x007F00);
        due.is("blue alone", lit(Desks.BLUE, 32768), 0x00007F);
    }

    private static void eachNumberIsTheGreatestNotAbove() {
        due.says("Terms: DIV(a, b): the greatest whole number that is not above a / b, in a colour's numbers");
        // 255 * 32767 / 65536 = 127.49, 128 * 32767 / 65536 = 63.99, 32767 / 65536 = 0.49.
        due.is("lit by almost a half", lit(0xFF8001, 32767), 0x7F3F00);
        due.is("lit by almost all", lit(0xFF8001, 65535), 0xFE7F00);
        due.is("lit by a half", lit(0xFF8002, 32768), 0x7F4001);
    }

    private static void lightHasEdges() {
        due.says("Terms: a LIGHT l, 0 .. 65536: the least and the most");
        due.is("no light", lit(Desks.WHITE, 0), 0);
        due.is("the least light", lit(Desks.WHITE, 1), 0);
        due.is("all light", lit(Desks.WHITE, 65536), Desks.WHITE);
        due.is("all light on other numbers", lit(0x01FE80, 65536), 0x01FE80);
    }

    private static void theGreatestNumbersFit() {
        due.says("Terms: all is worked out in longs");
        TileDesk desk = new TileDesk(8, 8);
        Desks.text(desk, 1048576, 65536, -4096, -4096, 4096, -4096, 4096, 4096);
        desk.add(Desks.WHITE, 255);
        Desks.beginAndDrawAll(desk);
        due.is("the most light", desk.pixel(7, 0), Desks.WHITE);
        due.is("the most nearness", desk.nearness(7, 0), 1048576);
    }
}
