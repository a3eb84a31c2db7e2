import java.util.ArrayList;
import java.util.List;
import java.util.Set;
import java.util.TreeSet;

/**
 * The document in its plainest Java, held otherwise than the class holds it: lists that grow, sets, and marks
 * that are copies. What throws in the class answers one of the two numbers below here.
 */
final class Model {
    static final int INDEX = -777777701;
    static final int NULL = -777777702;

    private record Row(int number, int time, boolean sound) { }

    private record Aside(int part, int place) { }

    private record Stand(int position, int water, int credit, int reader) { }

    private record Kept(List<Stand> stands, Set<Integer> given, List<Aside> aside) { }

    private static final class Part {
        List<Row> rows = new ArrayList<>();
        Stand at = new Stand(0, -1, 0, -1);
        int share;
        int from = -1;
        boolean ended;

        boolean ready() {
            return at.position < rows.size();
        }

        boolean done() {
            return ended && !ready();
        }

        void read(int task) {
            at = new Stand(at.position, at.water, at.credit, task);
        }

        void credit(int more) {
            at = new Stand(at.position, at.water, at.credit + more, at.reader);
        }

        void pass() {
            at = new Stand(at.position + 1, Math.max(at.water, rows.get(at.position).time), at.credit, at.reader);
        }
    }

    private List<Part> parts = new ArrayList<>();
    private List<Kept> marks = new ArrayList<>();
    private Set<Integer> given = new TreeSet<>();
    private List<Aside> aside = new ArrayList<>();
    private Set<Integer> toLose = new TreeSet<>();
    private Set<Integer> toRepeat = new TreeSet<>();
    private int[] latest = {-1, -1, -1, -1, -1};
    private int tasks = 1;
    private int deliveries;
    private int lost;
    private int doubled;

    private boolean no(int part) {
        return part < 0 || part >= parts.size();
    }

    int part(int share) {
        if (share < 1 || share > 9) return -12;
        if (parts.size() == 12) return -14;
        Part made = new Part();
        made.share = share;
        parts.add(made);
        return parts.size() - 1;
    }

    int row(int part, int number, int time, boolean sound) {
        if (no(part)) return -11;
        if (number < 0 || number > 255 || time < 0 || time > 100000) return -12;
        Part p = parts.get(part);
        if (p.ended) return -13;
        if (p.rows.size() == 40) return -14;
        p.rows.add(new Row(number, time, sound));
        return p.rows.size();
    }

    int end(int part) {
        if (no(part)) return -11;
        if (parts.get(part).ended) return -13;
        parts.get(part).ended = true;
        return parts.get(part).rows.size();
    }

    int split(int part, int place) {
        if (no(part) || place < 0 || place >= parts.get(part).rows.size()) return -11;
        Part old = parts.get(part);
        if (place < old.at.position || place == 0) return -13;
        if (parts.size() == 12) return -14;
        Part made = new Part();
        made.share = old.share;
        made.ended = old.ended;
        made.from = part;
        made.rows = new ArrayList<>(old.rows.subList(place, old.rows.size()));
        old.rows = new ArrayList<>(old.rows.subList(0, place));
        old.ended = true;
        parts.add(made);
        return parts.size() - 1;
    }

    int give(int part, int task) {
        if (no(part) || task < -1 || task >= tasks) return -11;
        Part p = parts.get(part);
        if (p.done()) return -13;
        int was = p.at.reader;
        p.read(task);
        return was;
    }

    int read(int task) {
        if (task < 0 || task >= tasks) return -11;
        List<Part> ready = parts.stream().filter(p -> p.at.reader == task && p.ready()).toList();
        if (ready.isEmpty()) return -1;
        ready.forEach(p -> p.credit(p.share));
        int best = ready.stream().mapToInt(p -> p.at.credit).max().getAsInt();
        Part p = ready.stream().filter(q -> q.at.credit == best).findFirst().get();
        p.credit(-ready.stream().mapToInt(q -> q.share).sum());
        deliveries++;
        int place = p.at.position;
        Row row = p.rows.get(place);
        latest = new int[] {parts.indexOf(p), place, row.time, deliveries, p.at.credit};
        if (toLose.contains(deliveries)) {
            lost++;
            return -2;
        }
        if (!row.sound) {
            if (aside.size() < 100) aside.add(new Aside(parts.indexOf(p), place));
            p.pass();
            return -3;
        }
        if (given.contains(row.number)) {
            doubled++;
            p.pass();
            return -4;
        }
        given.add(row.number);
        if (!toRepeat.contains(deliveries)) p.pass();
        return row.number;
    }

    int latest(int what) {
        return what < 0 || what > 4 ? -12 : latest[what];
    }

    int lose(int n, boolean twice) {
        if (n < 1 || n > 50) return -12;
        return (twice ? toRepeat : toLose).add(deliveries + n) ? 1 : 0;
    }

    int mark() {
        if (marks.size() == 6) return -14;
        marks.add(new Kept(parts.stream().map(p -> p.at).toList(), new TreeSet<>(given), new ArrayList<>(aside)));
        return marks.size() - 1;
    }

    int restore(int mark) {
        if (mark < 0 || mark >= marks.size()) return -11;
        Kept kept = marks.get(mark);
        int moved = 0;
        for (int i = 0; i < parts.size(); i++) {
            Part p = parts.get(i);
            int was = p.at.position;
            p.at = i < kept.stands.size() ? kept.stands.get(i) : new Stand(0, -1, 0, -1);
            if (p.at.reader >= tasks) p.read(-1);
            if (was != p.at.position) moved++;
        }
        given = new TreeSet<>(kept.given);
        aside = new ArrayList<>(kept.aside);
        return moved;
    }

    int start(int time) {
        if (time < 0 || time > 100000) return -12;
        for (Part p : parts) {
            int place = 0;
            while (place < p.rows.size() && p.rows.get(place).time < time) place++;
            p.at = new Stand(place, -1, 0, p.at.reader);
        }
        given = new TreeSet<>();
        aside = new ArrayList<>();
        return (int) parts.stream().filter(Part::ready).count();
    }

    int scale(int n) {
        if (n < 1 || n > 6) return -12;
        tasks = n;
        int k = 0;
        for (Part p : parts) p.read(p.done() ? -1 : k++ % n);
        return k;
    }

    int told(int part, int what) {
        if (no(part)) return -11;
        if (what < 0 || what > 9) return -2000000012;
        Part p = parts.get(part);
        return new int[] {p.at.position, p.at.water, p.at.credit, p.share, p.at.reader, p.rows.size(),
            p.ended ? 1 : 0, p.ready() ? 1 : 0, p.done() ? 1 : 0, p.from}[what];
    }

    int given(int number) {
        if (number < 0 || number > 255) return -12;
        return given.contains(number) ? 1 : 0;
    }

    int number(int part, int place) {
        if (no(part) || place < 0 || place > 39) return INDEX;
        return place < parts.get(part).rows.size() ? parts.get(part).rows.get(place).number : NULL;
    }

    int aside(int i, int what) {
        if (i < 0 || i >= aside.size()) return -11;
        if (what < 0 || what > 1) return -12;
        return what == 0 ? aside.get(i).part : aside.get(i).place;
    }

    int rate(int part) {
        if (no(part)) return -11;
        Part p = parts.get(part);
        if (p.at.reader == -1) return NULL;
        int all = parts.stream().filter(q -> q == p || (q.at.reader == p.at.reader && q.ready())).mapToInt(q -> q.share).sum();
        return 1000 * p.share / all;
    }

    int water() {
        if (parts.stream().allMatch(Part::done)) return parts.stream().mapToInt(p -> p.at.water).max().orElse(-1);
        return parts.stream().filter(p -> !p.done()).mapToInt(p -> p.at.water).min().getAsInt();
    }

    int count(int what) {
        if (what < 0 || what > 9) return -12;
        int toCome = (int) (toLose.stream().filter(n -> n > deliveries).count() + toRepeat.stream().filter(n -> n > deliveries).count());
        return new int[] {parts.size(), tasks, marks.size(), deliveries, given.size(), aside.size(),
            (int) parts.stream().filter(Part::done).count(), lost, doubled, toCome}[what];
    }

    int clear() {
        int were = parts.size();
        parts = new ArrayList<>();
        marks = new ArrayList<>();
        given = new TreeSet<>();
        aside = new ArrayList<>();
        toLose = new TreeSet<>();
        toRepeat = new TreeSet<>();
        latest = new int[] {-1, -1, -1, -1, -1};
        tasks = 1;
        deliveries = 0;
        lost = 0;
        doubled = 0;
        return were;
    }
}
