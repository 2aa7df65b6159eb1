import java.util.ArrayList;
import java.util.List;

// All that calls can tell of an object: two objects of which it tells the same hold the same.
// Looking uses the object up (it undoes, goes back to its IMAGES, reads its text).
final class Probe {
    private final SmokeTalk x;
    private final List<Long> seen = new ArrayList<>();

    private Probe(SmokeTalk x) {
        this.x = x;
    }

    static List<Long> of(SmokeTalk x) {
        Probe probe = new Probe(x);
        probe.look();
        probe.undoAll();
        for (int image = 0; image < 2; image++) {
            if (probe.see(x.back(image)) < 0) continue;
            probe.look();
            probe.undoAll();
        }
        probe.see(x.valley());
        probe.look();
        return probe.seen;
    }

    private long see(long answer) {
        seen.add(answer);
        return answer;
    }

    private void look() {
        for (int what = 0; what < 5; what++) see(x.count(what));
        lookAtHouses();
        for (int d = 0; d < x.count(1); d++) {
            for (int what = 0; what < 7; what++) see(x.dish(d, what));
        }
        for (int k = 0; k < x.count(2); k++) {
            see(x.plume(k, 0));
            see(x.plume(k, 1));
        }
        see(x.trace());
        int lot = x.lot(0);
        see(lot);
        x.lot(lot);
    }

    private void lookAtHouses() {
        for (int h = 0; h < x.count(0); h++) {
            for (int good = 0; good < 5; good++) see(x.house(h, good));
        }
    }

    private void undoAll() {
        for (int i = 0; i < 21 && see(x.undo()) >= 0; i++) {
            if (i < 3) lookAtHouses();
        }
        lookAtHouses();
    }
}
