/**
 * Headings under authority: forms of the same, sees, broader and earlier ones, renamed, split,
 * deleted, with the records that show them.
 *
 * <p>Headings and records are numbered from 1 on. Every row has an unused place 0, so that a
 * number is its own index and 0 can stand for "none" everywhere inside. A set of headings is a
 * long with a bit for each number.
 */
public final class AuthorityRows {
    public static final int NONE = -1;

    private static final int KINDS = 4;
    private static final int MAX_HEADINGS = 60;
    private static final int HEADING_PLACES = MAX_HEADINGS + 1;
    private static final int MAX_RECORDS = 60;
    private static final int RECORD_PLACES = MAX_RECORDS + 1;
    private static final int MAX_SIGNS = 40;
    private static final int MAX_LETTERS = 20;

    // An object is used for 512 calls, and a call makes at most one LATER link.
    private static final int MAX_LATER = 512;

    private static final int SEE = 0;
    private static final int BROADER = 2;
    private static final int LATER = 3;
    private static final int SORTS = 4;

    private static final int TEXT_REFUSED = -99;
    private static final int NOTHING_TO_RENAME = -100;

    private final Collected collected = new Collected();
    private final Text text = new Text();
    private final Headings headings = new Headings();
    private final Links links = new Links();
    private final Records records = new Records();
    private final Way closedWay = new Way();

    public AuthorityRows() {
    }

    public void sign(int c) {
        collected.add((char) (c & 255));
    }

    public int heading(int kind) {
        if (!collected.moveTo(text)) {
            return TEXT_REFUSED;
        }
        if (kind < 0 || kind >= KINDS) {
            return 0;
        }
        return addHeading(kind);
    }

    public int link(int sort, int a, int b, long day) {
        if (sort < 0 || sort >= SORTS || a == b) {
            return 0;
        }
        if (!headings.isLive(a) || !headings.isLive(b)) {
            return 0;
        }
        if (links.has(sort, a, b) || links.isFull()) {
            return 0;
        }
        if (sort == SEE && wouldChainSees(a, b)) {
            return 0;
        }
        if ((sort == BROADER || sort == LATER) && closedWay.lay(links, sort, b, a)) {
            return 0;
        }
        links.add(sort, a, b, day);
        return 1;
    }

    public int rename(int heading) {
        if (!collected.moveTo(text)) {
            return TEXT_REFUSED;
        }
        if (!headings.isLive(heading)) {
            return NOTHING_TO_RENAME;
        }
        int clash = headings.firstOfKind(headings.kindOf(heading), text, heading);
        if (clash != 0) {
            return -clash;
        }
        headings.setText(heading, text);
        return records.countOf(heading);
    }

    public int find() {
        if (!collected.moveTo(text)) {
            return TEXT_REFUSED;
        }
        return headings.firstOfAnyKind(text);
    }

    public int see(int heading, int i) {
        if (!headings.isLive(heading) || i < 0) {
            return 0;
        }
        return nthOf(links.sourcesOf(SEE, setOf(heading)), i);
    }

    public int broader(int heading, int i) {
        if (!headings.isLive(heading) || i < 0) {
            return 0;
        }
        int left = i;
        long seen = setOf(heading);
        long level = links.targetsOf(BROADER, heading);
        for (int away = 1; away < MAX_HEADINGS && level != 0; away++) {
            int size = Long.bitCount(level);
            if (left < size) {
                return nthOf(level, left);
            }
            left -= size;
            seen |= level;
            level = links.targetsOfAll(BROADER, level) & ~seen;
        }
        return 0;
    }

    public int delete(int heading) {
        if (!headings.isLive(heading)) {
            return 0;
        }
        int shownBy = records.countOf(heading);
        if (shownBy > 0) {
            return -shownBy;
        }
        headings.end(heading);
        links.removeAllOf(heading);
        return 1;
    }

    public int split(int heading, long day) {
        if (!collected.moveTo(text)) {
            return TEXT_REFUSED;
        }
        if (!headings.isLive(heading) || links.isFull()) {
            return 0;
        }
        int made = addHeading(headings.kindOf(heading));
        if (made > 0) {
            links.add(LATER, heading, made, day);
            records.move(heading, made, day);
        }
        return made;
    }

    public int shown(int heading, long day) {
        if (!headings.isLive(heading)) {
            return 0;
        }
        return formOn(usedFormOf(heading), day);
    }

    public int record(int heading, long day) {
        if (!headings.isLive(heading) || records.isFull()) {
            return 0;
        }
        return records.add(usedFormOf(heading), day);
    }

    public int linked(int record) {
        return records.headingOf(record);
    }

    public int form(int heading, long day) {
        if (!headings.isLive(heading)) {
            return 0;
        }
        return formOn(heading, day);
    }

    public int ring(int i) {
        return closedWay.at(i);
    }

    public int letter(int heading, int i) {
        return headings.letterOf(heading, i);
    }

    private int addHeading(int kind) {
        if (headings.isFull()) {
            return 0;
        }
        int clash = headings.firstOfKind(kind, text, 0);
        if (clash != 0) {
            return -clash;
        }
        return headings.add(kind, text);
    }

    private boolean wouldChainSees(int a, int b) {
        return links.targetsOf(SEE, a) != 0
                || links.sourcesOf(SEE, setOf(a)) != 0
                || links.targetsOf(SEE, b) != 0;
    }

    private int usedFormOf(int heading) {
        int used = nthOf(links.targetsOf(SEE, heading), 0);
        return used == 0 ? heading : used;
    }

    private int formOn(int heading, long day) {
        int now = heading;
        // LATER links never close a ring, so no way is longer than there are headings.
        for (int step = 0; step < MAX_HEADINGS; step++) {
            int next = links.latestOn(now, day);
            if (next == 0) {
                return now;
            }
            now = next;
        }
        return now;
    }

    private static long setOf(int heading) {
        return 1L << heading;
    }

    private static boolean holds(long set, int heading) {
        return (set & setOf(heading)) != 0;
    }

    private static int nthOf(long set, int i) {
        int left = i;
        for (int h = 1; h <= MAX_HEADINGS; h++) {
            if (holds(set, h)) {
                if (left == 0) {
                    return h;
                }
                left--;
            }
        }
        return 0;
    }

    /** A text that has passed: 1 to 20 letters and digits. */
    private static final class Text {
        private final char[] letters = new char[MAX_LETTERS];
        private int length = 0;

        void clear() {
            length = 0;
        }

        void add(char letter) {
            if (length < MAX_LETTERS) {
                letters[length] = letter;
                length++;
            }
        }
    }

    /** The signs that wait for the next call that wants a text. */
    private static final class Collected {
        private final char[] signs = new char[MAX_SIGNS];
        private int count = 0;

        void add(char sign) {
            if (count < MAX_SIGNS) {
                signs[count] = sign;
                count++;
            }
        }

        /** Collected signs are gone after this, whether they were a text or not. */
        boolean moveTo(Text text) {
            int length = count;
            count = 0;
            if (length < 1 || length > MAX_LETTERS) {
                return false;
            }
            text.clear();
            for (int i = 0; i < length; i++) {
                if (!isLetterOrDigit(signs[i])) {
                    return false;
                }
                text.add(signs[i]);
            }
            return true;
        }

        private static boolean isLetterOrDigit(char c) {
            return c >= 'a' && c <= 'z' || c >= 'A' && c <= 'Z' || c >= '0' && c <= '9';
        }
    }

    /** The headings as they came; a deleted one keeps its number and its text. */
    private static final class Headings {
        private final int[] kinds = new int[HEADING_PLACES];
        private final boolean[] live = new boolean[HEADING_PLACES];
        private final char[] letters = new char[HEADING_PLACES * MAX_LETTERS];
        private final int[] lengths = new int[HEADING_PLACES];
        private int count = 0;

        boolean isFull() {
            return count >= MAX_HEADINGS;
        }

        boolean isThere(int heading) {
            return heading >= 1 && heading <= count;
        }

        boolean isLive(int heading) {
            return isThere(heading) && live[heading];
        }

        int kindOf(int heading) {
            return isThere(heading) ? kinds[heading] : NONE;
        }

        int add(int kind, Text text) {
            if (isFull()) {
                return 0;
            }
            count++;
            kinds[count] = kind;
            live[count] = true;
            setText(count, text);
            return count;
        }

        void end(int heading) {
            if (isThere(heading)) {
                live[heading] = false;
            }
        }

        void setText(int heading, Text text) {
            if (!isThere(heading)) {
                return;
            }
            for (int i = 0; i < text.length; i++) {
                letters[heading * MAX_LETTERS + i] = text.letters[i];
            }
            lengths[heading] = text.length;
        }

        int letterOf(int heading, int i) {
            if (!isThere(heading) || i < 0 || i >= lengths[heading]) {
                return NONE;
            }
            return letters[heading * MAX_LETTERS + i];
        }

        int firstOfAnyKind(Text text) {
            for (int h = 1; h <= count; h++) {
                if (live[h] && hasText(h, text)) {
                    return h;
                }
            }
            return 0;
        }

        int firstOfKind(int kind, Text text, int except) {
            for (int h = 1; h <= count; h++) {
                if (h != except && live[h] && kinds[h] == kind && hasText(h, text)) {
                    return h;
                }
            }
            return 0;
        }

        private boolean hasText(int heading, Text text) {
            if (lengths[heading] != text.length) {
                return false;
            }
            for (int i = 0; i < text.length; i++) {
                if (small(letters[heading * MAX_LETTERS + i]) != small(text.letters[i])) {
                    return false;
                }
            }
            return true;
        }

        private static int small(char c) {
            return c >= 'A' && c <= 'Z' ? c - 'A' + 'a' : c;
        }
    }

    /** The links of all sorts as sets of targets; of LATER links also the days, as they were made. */
    private static final class Links {
        private final long[] targets = new long[SORTS * HEADING_PLACES];
        private final int[] laterFrom = new int[MAX_LATER];
        private final int[] laterTo = new int[MAX_LATER];
        private final long[] laterDay = new long[MAX_LATER];
        private int laterCount = 0;

        boolean isFull() {
            return laterCount >= MAX_LATER;
        }

        boolean has(int sort, int from, int to) {
            return holds(targetsOf(sort, from), to);
        }

        long targetsOf(int sort, int heading) {
            return isPlace(sort, heading) ? targets[sort * HEADING_PLACES + heading] : 0;
        }

        long targetsOfAll(int sort, long set) {
            long all = 0;
            for (int h = 1; h <= MAX_HEADINGS; h++) {
                if (holds(set, h)) {
                    all |= targetsOf(sort, h);
                }
            }
            return all;
        }

        long sourcesOf(int sort, long set) {
            long sources = 0;
            for (int h = 1; h <= MAX_HEADINGS; h++) {
                if ((targetsOf(sort, h) & set) != 0) {
                    sources |= setOf(h);
                }
            }
            return sources;
        }

        void add(int sort, int from, int to, long day) {
            if (isFull() || !isPlace(sort, from) || !isPlace(sort, to)) {
                return;
            }
            targets[sort * HEADING_PLACES + from] |= setOf(to);
            if (sort == LATER) {
                putLater(laterCount, from, to, day);
                laterCount++;
            }
        }

        void removeAllOf(int heading) {
            for (int sort = 0; sort < SORTS && isPlace(sort, heading); sort++) {
                targets[sort * HEADING_PLACES + heading] = 0;
                for (int h = 1; h <= MAX_HEADINGS; h++) {
                    targets[sort * HEADING_PLACES + h] &= ~setOf(heading);
                }
            }
            removeLaterOf(heading);
        }

        /** The heading of the latest LATER link that counts on a day; 0 if none does. */
        int latestOn(int heading, long day) {
            int best = NONE;
            for (int i = 0; i < laterCount; i++) {
                boolean counts = laterFrom[i] == heading && laterDay[i] <= day;
                // Of the same day the one made first stays, so only a later day wins.
                if (counts && (best == NONE || laterDay[i] > laterDay[best])) {
                    best = i;
                }
            }
            return best == NONE ? 0 : laterTo[best];
        }

        // The face looks at numbers first; this keeps the rows safe whoever asks.
        private static boolean isPlace(int sort, int heading) {
            return sort >= 0 && sort < SORTS && heading >= 1 && heading <= MAX_HEADINGS;
        }

        private void removeLaterOf(int heading) {
            int kept = 0;
            for (int i = 0; i < laterCount; i++) {
                if (laterFrom[i] != heading && laterTo[i] != heading) {
                    putLater(kept, laterFrom[i], laterTo[i], laterDay[i]);
                    kept++;
                }
            }
            laterCount = kept;
        }

        private void putLater(int place, int from, int to, long day) {
            laterFrom[place] = from;
            laterTo[place] = to;
            laterDay[place] = day;
        }
    }

    /** The records as they came. */
    private static final class Records {
        private final int[] headings = new int[RECORD_PLACES];
        private final long[] days = new long[RECORD_PLACES];
        private int count = 0;

        boolean isFull() {
            return count >= MAX_RECORDS;
        }

        int add(int heading, long day) {
            if (isFull()) {
                return 0;
            }
            count++;
            headings[count] = heading;
            days[count] = day;
            return count;
        }

        int headingOf(int record) {
            return record >= 1 && record <= count ? headings[record] : 0;
        }

        int countOf(int heading) {
            int found = 0;
            for (int r = 1; r <= count; r++) {
                if (headings[r] == heading) {
                    found++;
                }
            }
            return found;
        }

        void move(int from, int to, long firstDay) {
            for (int r = 1; r <= count; r++) {
                if (headings[r] == from && days[r] >= firstDay) {
                    headings[r] = to;
                }
            }
        }
    }

    /** The way that the latest link refused for coming back would have closed. */
    private static final class Way {
        private final int[] stops = new int[MAX_HEADINGS];
        private int length = 0;
        // At d: the headings from which the end of the way is d links away, and no fewer.
        private final long[] awayFromEnd = new long[HEADING_PLACES];

        int at(int i) {
            return i >= 0 && i < length ? stops[i] : 0;
        }

        /** Where no way leads from start to end, the way that is kept stays as it was. */
        boolean lay(Links links, int sort, int start, int end) {
            int distance = measure(links, sort, start, end);
            if (distance == NONE) {
                return false;
            }
            walk(links, sort, start, distance);
            return true;
        }

        private int measure(Links links, int sort, int start, int end) {
            long seen = setOf(end);
            awayFromEnd[0] = seen;
            for (int d = 0; d < MAX_HEADINGS && awayFromEnd[d] != 0; d++) {
                if (holds(awayFromEnd[d], start)) {
                    return d;
                }
                awayFromEnd[d + 1] = links.sourcesOf(sort, awayFromEnd[d]) & ~seen;
                seen |= awayFromEnd[d + 1];
            }
            return NONE;
        }

        // Measured from the end, so that the least number at each stop gives the least way.
        private void walk(Links links, int sort, int start, int distance) {
            stops[0] = start;
            length = 1;
            for (int d = distance - 1; d >= 0 && length < MAX_HEADINGS; d--) {
                long onward = links.targetsOf(sort, stops[length - 1]) & awayFromEnd[d];
                stops[length] = nthOf(onward, 0);
                length++;
            }
        }
    }
}
