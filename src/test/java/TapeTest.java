/** Promises 1 to 4: a new object, feed, cut, hash. */
public final class TapeTest {
    public static void main(String[] args) {
        Due due = new Due("tape");
        PurseHouse x = new PurseHouse();
        due.is("cut(0)", x.cut(0), 0);
        for (int i = 1; i <= 10; i++) {
            due.is("feed " + i, x.feed(i, -i, i << 24, i * 77, 0), 20 * i);
        }
        due.is("feed above 200", x.feed(1, 2, 3, 4, 5), PurseHouse.FULL);
        due.is("cut(201)", x.cut(201), PurseHouse.BAD);
        due.is("cut(-1)", x.cut(-1), PurseHouse.BAD);
        due.is("cut(1)", x.cut(1), 199);
        due.is("feed above 200", x.feed(1, 2, 3, 4, 5), PurseHouse.FULL);
        due.is("cut(199)", x.cut(199), 0);
        due.end();
    }
}
