/** The examples of README.md: each answers what is said there. */
public final class ReadmeTest {
    public static void main(String[] args) {
        LocoFrames ring = new LocoFrames();
        Due.is("loco", ring.loco(3, 10, LocoFrames.EVEN, 95), 1);
        Due.is("order", ring.order(3, 128 + 20, 1), 1);
        Due.is("reaches", ring.reaches(3, 1), 4);
        Due.is("pass", ring.pass(10), 1);
        Due.is("of", ring.of(3, 2), 128);
        Due.is("undo", ring.undo(), 2);
        Due.is("its place before the ten ticks", ring.of(3, 2), 95);
        Due.is("frame", ring.frame(3, 65, 3 ^ 65), 1);
        String[] orders = {"o3:148!1", "f3,65,66", "s7*4", "t10"};
        for (String order : orders) {
            Due.write(ring, order);
            Due.is("carryOut() of " + order, ring.carryOut(), 1);
        }
        Due.write(ring, "o3:148!1;t10;s7*4");
        Due.is("carryOut() of three", ring.carryOut(), 3);
        Due.end();
    }
}
