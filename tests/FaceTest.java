/** A new object: no DAYS, nothing told. */
public final class FaceTest {
    public static void main(String[] args) {
        HallGlass x = new HallGlass();
        for (int what = 0; what <= 8; what++) {
            if (x.count(what) != 0) {
                System.out.println("count(" + what + ") is not 0 at first");
                System.exit(1);
            }
        }
    }
}
