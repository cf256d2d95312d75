/** Promises 1 to 4 and 39: the house and its computers. */
public final class HouseTest {
    public static void main(String[] args) {
        Check check = new Check();
        check.about("promise 1");
        RiscMonitor x = new RiscMonitor();
        for (int what = 0; what < 5; what++) {
            check.due("count(" + what + ") of a new object", x.count(what), 0);
        }
        check.end();
    }
}
