/** Sources that are read again from where they stood; ../shared/DOC.md has the promises that the comments name. */
public final class SourcePositions {
    public static final int NONE = -1, LOST = -2, ASIDE = -3, DOUBLE = -4, UNKNOWN = -11, OUTSIDE = -12, STATE = -13, FULL = -14;

    private static final int MOST_PARTS = 12;
    private static final int MOST_ROWS = 40;
    private static final int MOST_SHARE = 9;
    private static final int MOST_NUMBER = 255;
    private static final int MOST_TIME = 100000;
    private static final int MOST_TASKS = 6;
    private static final int MOST_MARKS = 6;
    private static final int MOST_ASIDE = 100;
    private static final int MOST_AHEAD = 50;
    private static final int READINGS = 1000;
    private static final int NO_WATER = -1;
    private static final int LATEST_FIELDS = 5;

    /** A CREDIT may be -12 itself, so told() has a refusal of its own for OUTSIDE. */
    private static final int TOLD_OUTSIDE = -2000000012;

    /** A power of two above MOST_AHEAD: a mask finds the slot of any delivery's number, and no two to come share one. */
    private static final int SLOTS = 64;

    private final Part[] parts = new Part[MOST_PARTS];
    private final Mark[] marks = new Mark[MOST_MARKS];
    private final Findings findings = new Findings();
    private final Deliveries deliveries = new Deliveries();
    private final int[] latestRead = new int[LATEST_FIELDS];
    private int partCount;
    private int markCount;
    private int taskCount;

    public SourcePositions() {
        for (int i = 0; i < MOST_PARTS; i++) {
            parts[i] = new Part();
        }
        for (int i = 0; i < MOST_MARKS; i++) {
            marks[i] = new Mark();
        }
        begin();
    }

    public int part(int share) {
        if (share < 1 || share > MOST_SHARE) {
            return OUTSIDE;
        }
        if (partCount >= MOST_PARTS) {
            return FULL;
        }
        return addPart(share, NONE);
    }

    public int row(int part, int number, int time, boolean sound) {
        if (!isPart(part)) {
            return UNKNOWN;
        }
        if (!isNumber(number) || !isTime(time)) {
            return OUTSIDE;
        }
        Part target = parts[part];
        if (target.ended) {
            return STATE;
        }
        if (target.rowCount >= MOST_ROWS) {
            return FULL;
        }
        target.addRow(number, time, sound);
        return target.rowCount;
    }

    public int end(int part) {
        if (!isPart(part)) {
            return UNKNOWN;
        }
        Part target = parts[part];
        if (target.ended) {
            return STATE;
        }
        target.ended = true;
        return target.rowCount;
    }

    public int split(int part, int place) {
        if (!isPart(part) || !parts[part].hasRow(place)) {
            return UNKNOWN;
        }
        Part source = parts[part];
        if (place == 0 || place < source.position) {
            return STATE;
        }
        if (partCount >= MOST_PARTS) {
            return FULL;
        }
        int added = addPart(source.share, part);
        source.moveRowsFrom(place, parts[added]);
        return added;
    }

    public int give(int part, int task) {
        if (!isPart(part) || (task != NONE && !isTask(task))) {
            return UNKNOWN;
        }
        Part target = parts[part];
        if (target.isDone()) {
            return STATE;
        }
        int before = target.reader;
        target.reader = task;
        return before;
    }

    public int read(int task) {
        if (!isTask(task)) {
            return UNKNOWN;
        }
        int chosen = chooseByCredit(task);
        if (!isPart(chosen)) {
            return NONE;
        }
        return deliverFrom(chosen);
    }

    public int latest(int what) {
        if (what < 0 || what >= LATEST_FIELDS) {
            return OUTSIDE;
        }
        return latestRead[what];
    }

    public int lose(int n, boolean twice) {
        if (n < 1 || n > MOST_AHEAD) {
            return OUTSIDE;
        }
        return deliveries.tell(n, twice) ? 1 : 0;
    }

    public int mark() {
        if (markCount >= MOST_MARKS) {
            return FULL;
        }
        marks[markCount].keep(parts, partCount, findings);
        markCount++;
        return markCount - 1;
    }

    public int restore(int mark) {
        if (mark < 0 || mark >= markCount) {
            return UNKNOWN;
        }
        Mark from = marks[mark];
        int moved = 0;
        for (int i = 0; i < partCount; i++) {
            int before = parts[i].position;
            from.bringBack(i, parts[i], taskCount);
            if (parts[i].position != before) {
                moved++;
            }
        }
        findings.copyFrom(from.findings);
        return moved;
    }

    public int start(int time) {
        if (!isTime(time)) {
            return OUTSIDE;
        }
        findings.forget();
        int ready = 0;
        for (int i = 0; i < partCount; i++) {
            parts[i].stand(parts[i].firstPlaceFrom(time), NO_WATER, 0);
            if (parts[i].isReady()) {
                ready++;
            }
        }
        return ready;
    }

    public int scale(int n) {
        if (n < 1 || n > MOST_TASKS) {
            return OUTSIDE;
        }
        taskCount = n;
        int beingRead = 0;
        int next = 0;
        for (int i = 0; i < partCount; i++) {
            if (parts[i].isDone()) {
                parts[i].reader = NONE;
                continue;
            }
            parts[i].reader = next;
            next = next + 1 < n ? next + 1 : 0;
            beingRead++;
        }
        return beingRead;
    }

    public int told(int part, int what) {
        if (!isPart(part)) {
            return UNKNOWN;
        }
        Part of = parts[part];
        switch (what) {
            case 0: return of.position;
            case 1: return of.water;
            case 2: return of.credit;
            case 3: return of.share;
            case 4: return of.reader;
            case 5: return of.rowCount;
            case 6: return of.ended ? 1 : 0;
            case 7: return of.isReady() ? 1 : 0;
            case 8: return of.isDone() ? 1 : 0;
            case 9: return of.origin;
            default: return TOLD_OUTSIDE;
        }
    }

    public int given(int number) {
        if (!isNumber(number)) {
            return OUTSIDE;
        }
        return findings.wasGiven(number) ? 1 : 0;
    }

    public int number(int part, int place) throws ArrayIndexOutOfBoundsException, NullPointerException {
        if (!isPart(part) || place < 0 || place >= MOST_ROWS) {
            throw new ArrayIndexOutOfBoundsException("no such part, or the place is not 0 .. 39");
        }
        if (!parts[part].hasRow(place)) {
            throw new NullPointerException("no row is there");
        }
        return parts[part].numbers[place];
    }

    public int aside(int i, int what) {
        if (i < 0 || i >= findings.asideCount) {
            return UNKNOWN;
        }
        switch (what) {
            case 0: return findings.asideParts[i];
            case 1: return findings.asidePlaces[i];
            default: return OUTSIDE;
        }
    }

    public int rate(int part) throws NullPointerException {
        if (!isPart(part)) {
            return UNKNOWN;
        }
        Part of = parts[part];
        if (of.reader == NONE) {
            throw new NullPointerException("no task reads the part");
        }
        int shares = of.share;
        for (int i = 0; i < partCount; i++) {
            if (i != part && parts[i].isReadyFor(of.reader)) {
                shares += parts[i].share;
            }
        }
        // A SHARE is never below 1; the divisor is looked at all the same.
        return shares < 1 ? 0 : READINGS * of.share / shares;
    }

    public int water() {
        int least = NO_WATER;
        int greatest = NO_WATER;
        boolean allDone = true;
        for (int i = 0; i < partCount; i++) {
            int water = parts[i].water;
            greatest = Math.max(greatest, water);
            if (!parts[i].isDone()) {
                least = allDone ? water : Math.min(least, water);
                allDone = false;
            }
        }
        return allDone ? greatest : least;
    }

    public int count(int what) {
        switch (what) {
            case 0: return partCount;
            case 1: return taskCount;
            case 2: return markCount;
            case 3: return deliveries.made;
            case 4: return findings.givenCount;
            case 5: return findings.asideCount;
            case 6: return countDone();
            case 7: return deliveries.lost;
            case 8: return deliveries.doubled;
            case 9: return deliveries.toldToCome;
            default: return OUTSIDE;
        }
    }

    public int clear() {
        int before = partCount;
        begin();
        return before;
    }

    private void begin() {
        partCount = 0;
        markCount = 0;
        taskCount = 1;
        findings.forget();
        deliveries.forget();
        for (int i = 0; i < LATEST_FIELDS; i++) {
            latestRead[i] = NONE;
        }
    }

    private boolean isPart(int part) {
        return part >= 0 && part < partCount;
    }

    private boolean isTask(int task) {
        return task >= 0 && task < taskCount;
    }

    private static boolean isNumber(int number) {
        return number >= 0 && number <= MOST_NUMBER;
    }

    private static boolean isTime(int time) {
        return time >= 0 && time <= MOST_TIME;
    }

    /** The caller has seen that there is room for a PART more. */
    private int addPart(int share, int origin) {
        parts[partCount].beginAnew(share, origin);
        partCount++;
        return partCount - 1;
    }

    private int chooseByCredit(int task) {
        int chosen = NONE;
        int shares = 0;
        for (int i = 0; i < partCount; i++) {
            Part candidate = parts[i];
            if (candidate.isReadyFor(task)) {
                candidate.credit += candidate.share;
                shares += candidate.share;
                if (chosen == NONE || candidate.credit > parts[chosen].credit) {
                    chosen = i;
                }
            }
        }
        if (chosen != NONE) {
            parts[chosen].credit -= shares;
        }
        return chosen;
    }

    private int deliverFrom(int chosen) {
        Part source = parts[chosen];
        // Only a READY PART is ever chosen; the places below are looked up on the strength of this line, not of that.
        if (!source.isReady()) {
            return NONE;
        }
        int place = source.position;
        int number = source.numbers[place];
        deliveries.made++;
        noteLatest(chosen, place);
        // Both are taken, whatever comes of the delivery: what was told of a number ends with it.
        boolean lost = deliveries.take(deliveries.toLose);
        boolean twice = deliveries.take(deliveries.toRepeat);
        if (lost) {
            deliveries.lost++;
            return LOST;
        }
        if (!source.sounds[place]) {
            findings.setAside(chosen, place);
            source.pass();
            return ASIDE;
        }
        if (findings.wasGiven(number)) {
            deliveries.doubled++;
            source.pass();
            return DOUBLE;
        }
        findings.addGiven(number);
        if (!twice) {
            source.pass();
        }
        return number;
    }

    private void noteLatest(int chosen, int place) {
        latestRead[0] = chosen;
        latestRead[1] = place;
        latestRead[2] = parts[chosen].times[place];
        latestRead[3] = deliveries.made;
        latestRead[4] = parts[chosen].credit;
    }

    private int countDone() {
        int done = 0;
        for (int i = 0; i < partCount; i++) {
            if (parts[i].isDone()) {
                done++;
            }
        }
        return done;
    }

    /** A PART: made once for each place that a PART may take, and begun anew when one takes it. */
    private static final class Part {
        private final int[] numbers = new int[MOST_ROWS];
        private final int[] times = new int[MOST_ROWS];
        private final boolean[] sounds = new boolean[MOST_ROWS];
        private int rowCount;
        private boolean ended;
        private int position;
        private int water;
        private int credit;
        private int share;
        private int reader;
        private int origin;

        private void beginAnew(int newShare, int splitFrom) {
            rowCount = 0;
            ended = false;
            share = newShare;
            origin = splitFrom;
            reader = NONE;
            stand(0, NO_WATER, 0);
        }

        private void stand(int newPosition, int newWater, int newCredit) {
            position = newPosition;
            water = newWater;
            credit = newCredit;
        }

        private boolean hasRow(int place) {
            return place >= 0 && place < rowCount;
        }

        /** A POSITION out of a MARK may lie behind the rows that a SPLIT has left. */
        private boolean isReady() {
            return hasRow(position);
        }

        private boolean isReadyFor(int task) {
            return reader == task && isReady();
        }

        private boolean isDone() {
            return ended && !isReady();
        }

        private void addRow(int number, int time, boolean sound) {
            if (rowCount < MOST_ROWS) {
                numbers[rowCount] = number;
                times[rowCount] = time;
                sounds[rowCount] = sound;
                rowCount++;
            }
        }

        /** The caller has seen that there is a ROW at the place. */
        private void moveRowsFrom(int place, Part to) {
            for (int i = place; i < rowCount; i++) {
                to.addRow(numbers[i], times[i], sounds[i]);
            }
            to.ended = ended;
            rowCount = place;
            ended = true;
        }

        private int firstPlaceFrom(int time) {
            for (int i = 0; i < rowCount; i++) {
                if (times[i] >= time) {
                    return i;
                }
            }
            return rowCount;
        }

        private void pass() {
            if (isReady()) {
                water = Math.max(water, times[position]);
                position++;
            }
        }
    }

    /** Which NUMBERS were GIVEN and what is ASIDE: what the object holds now, or what a MARK keeps of it. */
    private static final class Findings {
        private final boolean[] isGiven = new boolean[MOST_NUMBER + 1];
        private final int[] asideParts = new int[MOST_ASIDE];
        private final int[] asidePlaces = new int[MOST_ASIDE];
        private int givenCount;
        private int asideCount;

        private void forget() {
            for (int i = 0; i <= MOST_NUMBER; i++) {
                isGiven[i] = false;
            }
            givenCount = 0;
            asideCount = 0;
        }

        private void copyFrom(Findings other) {
            System.arraycopy(other.isGiven, 0, isGiven, 0, MOST_NUMBER + 1);
            System.arraycopy(other.asideParts, 0, asideParts, 0, MOST_ASIDE);
            System.arraycopy(other.asidePlaces, 0, asidePlaces, 0, MOST_ASIDE);
            givenCount = other.givenCount;
            asideCount = other.asideCount;
        }

        private boolean wasGiven(int number) {
            return isNumber(number) && isGiven[number];
        }

        private void addGiven(int number) {
            if (isNumber(number) && !isGiven[number]) {
                isGiven[number] = true;
                givenCount++;
            }
        }

        private void setAside(int part, int place) {
            if (asideCount < MOST_ASIDE) {
                asideParts[asideCount] = part;
                asidePlaces[asideCount] = place;
                asideCount++;
            }
        }
    }

    /** How many deliveries there were, and what was told of those to come. */
    private static final class Deliveries {
        private final boolean[] toLose = new boolean[SLOTS];
        private final boolean[] toRepeat = new boolean[SLOTS];
        private int made;
        private int lost;
        private int doubled;
        private int toldToCome;

        private void forget() {
            for (int i = 0; i < SLOTS; i++) {
                toLose[i] = false;
                toRepeat[i] = false;
            }
            made = 0;
            lost = 0;
            doubled = 0;
            toldToCome = 0;
        }

        /** Whether it is news. */
        private boolean tell(int ahead, boolean twice) {
            boolean[] told = twice ? toRepeat : toLose;
            int slot = (made + ahead) & (SLOTS - 1);
            if (told[slot]) {
                return false;
            }
            told[slot] = true;
            toldToCome++;
            return true;
        }

        /** Whether it was told of the delivery just made; the slot is free then for a later number. */
        private boolean take(boolean[] told) {
            int slot = made & (SLOTS - 1);
            if (!told[slot]) {
                return false;
            }
            told[slot] = false;
            toldToCome--;
            return true;
        }
    }

    private static final class Mark {
        private final int[] positions = new int[MOST_PARTS];
        private final int[] waters = new int[MOST_PARTS];
        private final int[] credits = new int[MOST_PARTS];
        private final int[] readers = new int[MOST_PARTS];
        private final Findings findings = new Findings();
        private int keptParts;

        private void keep(Part[] parts, int partCount, Findings now) {
            keptParts = Math.min(partCount, MOST_PARTS);
            for (int i = 0; i < keptParts; i++) {
                positions[i] = parts[i].position;
                waters[i] = parts[i].water;
                credits[i] = parts[i].credit;
                readers[i] = parts[i].reader;
            }
            findings.copyFrom(now);
        }

        private void bringBack(int number, Part part, int taskCount) {
            if (number < 0 || number >= keptParts) {
                part.stand(0, NO_WATER, 0);
                part.reader = NONE;
                return;
            }
            part.stand(positions[number], waters[number], credits[number]);
            part.reader = readers[number] < taskCount ? readers[number] : NONE;
        }
    }
}
