import java.util.NoSuchElementException;

/** Whether a call throws what the document names. */
final class Throws {
    private Throws() {
    }

    static boolean air(ScentCourt court, int place, int scent) {
        try {
            court.air(place, scent);
            return false;
        } catch (NoSuchElementException e) {
            return true;
        }
    }

    static boolean witness(ScentCourt court, int w, int what) {
        try {
            court.witness(w, what);
            return false;
        } catch (NoSuchElementException e) {
            return true;
        }
    }
}
