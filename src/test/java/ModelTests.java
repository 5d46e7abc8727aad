import java.util.ArrayDeque;
import java.util.ArrayList;
import java.util.Arrays;
import java.util.Deque;
import java.util.HashMap;
import java.util.List;
import java.util.Map;
import java.util.TreeSet;

/** Compares long runs of mixed calls with a slow and plain model of the document. */
public final class ModelTests {
    private static final int RUNS = 3000;
    // A text and the call that takes it may still follow, and stay within 512.
    private static final int CALLS = 440;
    private static int wrong = 0;

    public static void main(String[] args) {
        for (int run = 0; run < RUNS && wrong < 10; run++) {
            new Run(run).go();
        }
        goOnPastTheLastCall();
        System.out.println(wrong == 0 ? "the class answers as the model" : wrong + " answers are not as due");
        if (wrong != 0) {
            System.exit(1);
        }
    }

    /** What is answered after 512 calls is free, but no call may throw. */
    private static void goOnPastTheLastCall() {
        AuthorityRows x = new AuthorityRows();
        for (int h = 1; h <= 60; h++) {
            x.sign('a' + h % 26);
            x.sign('a' + h / 26);
            x.heading(0);
        }
        for (int a = 1; a <= 60; a++) {
            for (int b = 60; b >= 1; b--) {
                for (int sort = 0; sort < 4; sort++) {
                    x.link(sort, a, b, a - b);
                }
            }
        }
        for (int h = 1; h <= 60; h++) {
            x.form(h, 0);
            x.broader(h, 70 - h);
            x.sign('a');
            x.split(h, 0);
            x.delete(h);
        }
    }

    private static final class Run {
        private final int number;
        private long seed;
        private final AuthorityRows x = new AuthorityRows();
        private final Model model = new Model();
        private final StringBuilder told = new StringBuilder();
        private final boolean wild;
        private final boolean big;

        Run(int number) {
            this.number = number;
            this.seed = 0x9E3779B97F4A7C15L * (number + 1);
            this.wild = number % 3 == 0;
            this.big = number % 5 == 0;
        }

        int any(int bound) {
            seed = seed * 6364136223846793005L + 1442695040888963407L;
            return (int) ((seed >>> 33) % bound);
        }

        int anyHeading() {
            if (wild && any(10) == 0) {
                int[] strange = {0, -1, 61, 64, 128, Integer.MIN_VALUE, Integer.MAX_VALUE};
                return strange[any(strange.length)];
            }
            return 1 + any(Math.max(1, model.headings.size() + (any(8) == 0 ? 1 : 0)));
        }

        int anyIndex() {
            return wild && any(10) == 0 ? (any(2) == 0 ? Integer.MIN_VALUE : -1) : any(any(2) == 0 ? 3 : 12);
        }

        long anyDay() {
            if (wild && any(10) == 0) {
                return any(2) == 0 ? Long.MIN_VALUE : Long.MAX_VALUE;
            }
            return any(8);
        }

        int anySign() {
            if (wild && any(12) == 0) {
                return any(300) - 20;
            }
            return "aAbBc1".charAt(any(6));
        }

        void go() {
            int target = big ? 60 : 3 + any(10);
            int calls = 0;
            while (calls < CALLS && wrong < 10) {
                if (model.headings.size() < target && any(3) != 0 || any(12) == 0) {
                    calls += textCall();
                } else {
                    plainCall();
                    calls++;
                }
            }
        }

        int textCall() {
            int between = 0;
            int length = any(15) == 0 ? any(45) : (big ? 2 + any(4) : any(14) == 0 ? 0 : 1 + any(3));
            for (int i = 0; i < length; i++) {
                int c = anySign();
                x.sign(c);
                model.sign(c);
                told.append(" sign(").append(c).append(")");
                // Calls that want no text leave what is collected.
                if (any(20) == 0) {
                    plainCall();
                    between++;
                }
            }
            int what = any(10);
            if (what < 6) {
                int kind = wild && any(10) == 0 ? any(9) - 4 : any(big ? 4 : 2);
                due("heading(" + kind + ")", x.heading(kind), model.heading(kind));
            } else if (what < 7) {
                due("find()", x.find(), model.find());
            } else if (what < 8) {
                int h = anyHeading();
                due("rename(" + h + ")", x.rename(h), model.rename(h));
            } else {
                int h = anyHeading();
                long day = anyDay();
                due("split(" + h + ", " + day + ")", x.split(h, day), model.split(h, day));
            }
            return length + between + 1;
        }

        void plainCall() {
            int h = anyHeading();
            int i = anyIndex();
            long day = anyDay();
            int what = any(24);
            if (what < 9) {
                int sort = wild && any(10) == 0 ? any(9) - 2 : (any(4) == 0 ? any(2) : 2 + any(2));
                int b = anyHeading();
                due("link(" + sort + ", " + h + ", " + b + ", " + day + ")", x.link(sort, h, b, day), model.link(sort, h, b, day));
            } else if (what < 10) {
                if (any(3) == 0) {
                    due("delete(" + h + ")", x.delete(h), model.delete(h));
                }
            } else if (what < 12) {
                due("record(" + h + ", " + day + ")", x.record(h, day), model.record(h, day));
            } else if (what < 14) {
                due("see(" + h + ", " + i + ")", x.see(h, i), model.see(h, i));
            } else if (what < 16) {
                due("broader(" + h + ", " + i + ")", x.broader(h, i), model.broader(h, i));
            } else if (what < 18) {
                due("shown(" + h + ", " + day + ")", x.shown(h, day), model.shown(h, day));
            } else if (what < 19) {
                due("linked(" + h + ")", x.linked(h), model.linked(h));
            } else if (what < 21) {
                due("form(" + h + ", " + day + ")", x.form(h, day), model.form(h, day));
            } else if (what < 23) {
                due("ring(" + i + ")", x.ring(i), model.ring(i));
            } else {
                due("letter(" + h + ", " + i + ")", x.letter(h, i), model.letter(h, i));
            }
        }

        void due(String call, int got, int want) {
            told.append(' ').append(call);
            if (got != want) {
                wrong++;
                System.out.println("run " + number + ": " + call + " answered " + got + ", due is " + want + " after" + told);
            }
        }
    }

    private static final class ModelHeading {
        int kind;
        String text;
        boolean live = true;
    }

    private record ModelLink(int sort, int from, int to, long day) {
    }

    private static final class Model {
        final List<ModelHeading> headings = new ArrayList<>();
        final List<ModelLink> links = new ArrayList<>();
        final List<int[]> recordHeadings = new ArrayList<>();
        final List<Long> recordDays = new ArrayList<>();
        List<Integer> ring = new ArrayList<>();
        String collected = "";

        void sign(int c) {
            if (collected.length() < 40) {
                collected += (char) (c & 0xFF);
            }
        }

        String take() {
            String text = collected;
            collected = "";
            return text.matches("[a-zA-Z0-9]{1,20}") ? text : null;
        }

        boolean there(int h) {
            return h >= 1 && h <= headings.size();
        }

        boolean live(int h) {
            return there(h) && headings.get(h - 1).live;
        }

        int same(String text, int kind, int except) {
            for (int h = 1; h <= headings.size(); h++) {
                ModelHeading m = headings.get(h - 1);
                if (m.live && h != except && (kind < 0 || m.kind == kind) && m.text.equalsIgnoreCase(text)) {
                    return h;
                }
            }
            return 0;
        }

        int heading(int kind) {
            String text = take();
            return text == null ? -99 : make(text, kind);
        }

        int make(String text, int kind) {
            if (kind < 0 || kind > 3 || headings.size() == 60) {
                return 0;
            }
            int clash = same(text, kind, 0);
            if (clash != 0) {
                return -clash;
            }
            ModelHeading m = new ModelHeading();
            m.kind = kind;
            m.text = text;
            headings.add(m);
            return headings.size();
        }

        TreeSet<Integer> targets(int sort, int from) {
            TreeSet<Integer> found = new TreeSet<>();
            for (ModelLink l : links) {
                if (l.sort == sort && l.from == from) {
                    found.add(l.to);
                }
            }
            return found;
        }

        /** A search with the least numbers first finds the least of the shortest ways. */
        List<Integer> way(int sort, int start, int end) {
            Map<Integer, Integer> before = new HashMap<>();
            Deque<Integer> queue = new ArrayDeque<>(List.of(start));
            before.put(start, 0);
            while (!queue.isEmpty()) {
                int h = queue.remove();
                if (h == end) {
                    List<Integer> way = new ArrayList<>();
                    for (int w = end; w != 0; w = before.get(w)) {
                        way.add(0, w);
                    }
                    return way;
                }
                for (int next : targets(sort, h)) {
                    if (before.putIfAbsent(next, h) == null) {
                        queue.add(next);
                    }
                }
            }
            return null;
        }

        int link(int sort, int a, int b, long day) {
            if (!live(a) || !live(b) || a == b || sort < 0 || sort > 3 || targets(sort, a).contains(b)) {
                return 0;
            }
            for (ModelLink l : links) {
                if (sort == 0 && l.sort == 0 && (l.from == a || l.to == a || l.from == b)) {
                    return 0;
                }
            }
            if (sort >= 2) {
                List<Integer> way = way(sort, b, a);
                if (way != null) {
                    ring = way;
                    return 0;
                }
            }
            links.add(new ModelLink(sort, a, b, day));
            return 1;
        }

        int count(int h) {
            int n = 0;
            for (int[] r : recordHeadings) {
                n += r[0] == h ? 1 : 0;
            }
            return n;
        }

        int rename(int h) {
            String text = take();
            if (text == null) {
                return -99;
            }
            if (!live(h)) {
                return -100;
            }
            int clash = same(text, headings.get(h - 1).kind, h);
            if (clash != 0) {
                return -clash;
            }
            headings.get(h - 1).text = text;
            return count(h);
        }

        int find() {
            String text = take();
            return text == null ? -99 : same(text, -1, 0);
        }

        int see(int h, int i) {
            TreeSet<Integer> found = new TreeSet<>();
            for (ModelLink l : links) {
                if (l.sort == 0 && l.to == h) {
                    found.add(l.from);
                }
            }
            return at(new ArrayList<>(found), i);
        }

        int at(List<Integer> list, int i) {
            return i >= 0 && i < list.size() ? list.get(i) : 0;
        }

        int broader(int h, int i) {
            int[] away = new int[62];
            Arrays.fill(away, 99);
            if (!there(h)) {
                return 0;
            }
            away[h] = 0;
            for (int round = 0; round < 61; round++) {
                for (ModelLink l : links) {
                    if (l.sort == 2) {
                        away[l.to] = Math.min(away[l.to], away[l.from] + 1);
                    }
                }
            }
            List<Integer> found = new ArrayList<>();
            for (int d = 1; d < 99; d++) {
                for (int other = 1; other <= 60; other++) {
                    if (away[other] == d) {
                        found.add(other);
                    }
                }
            }
            return at(found, i);
        }

        int delete(int h) {
            if (!live(h)) {
                return 0;
            }
            if (count(h) > 0) {
                return -count(h);
            }
            headings.get(h - 1).live = false;
            links.removeIf(l -> l.from == h || l.to == h);
            return 1;
        }

        int split(int h, long day) {
            String text = take();
            if (text == null) {
                return -99;
            }
            if (!live(h)) {
                return 0;
            }
            int made = make(text, headings.get(h - 1).kind);
            if (made > 0) {
                links.add(new ModelLink(3, h, made, day));
                for (int r = 0; r < recordHeadings.size(); r++) {
                    if (recordHeadings.get(r)[0] == h && recordDays.get(r) >= day) {
                        recordHeadings.get(r)[0] = made;
                    }
                }
            }
            return made;
        }

        int used(int h) {
            for (ModelLink l : links) {
                if (l.sort == 0 && l.from == h) {
                    return l.to;
                }
            }
            return h;
        }

        int shown(int h, long day) {
            return live(h) ? form(used(h), day) : 0;
        }

        int record(int h, long day) {
            if (!live(h) || recordHeadings.size() == 60) {
                return 0;
            }
            recordHeadings.add(new int[] {used(h)});
            recordDays.add(day);
            return recordHeadings.size();
        }

        int linked(int r) {
            return r >= 1 && r <= recordHeadings.size() ? recordHeadings.get(r - 1)[0] : 0;
        }

        int form(int h, long day) {
            if (!live(h)) {
                return 0;
            }
            ModelLink best = null;
            for (ModelLink l : links) {
                if (l.sort == 3 && l.from == h && l.day <= day && (best == null || l.day > best.day)) {
                    best = l;
                }
            }
            return best == null ? h : form(best.to, day);
        }

        int ring(int i) {
            return at(ring, i);
        }

        int letter(int h, int i) {
            return there(h) && i >= 0 && i < headings.get(h - 1).text.length() ? headings.get(h - 1).text.charAt(i) : -1;
        }
    }
}
