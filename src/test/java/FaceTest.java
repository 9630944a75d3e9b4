/** The constant. */
public final class FaceTest {
    public static void main(String[] args) {
        if (DutyLedger.NONE != -1) {
            System.out.println("NONE");
            System.exit(1);
        }
    }
}
