import java.util.ArrayList;
import java.util.Arrays;
import java.util.HashSet;
import java.util.List;
import java.util.Set;
import java.util.TreeMap;

/**
 * The document once more, in the slowest and plainest way, with the whole Java library: every set of lamps,
 * every order and every night is gone through anew at each call. Its face is that of GooseShares.
 */
public final class Model {
    static final class Flight {
        int row;
        int col;
        int heads;
        int geese;

        Flight(int row, int col, int heads, int geese) {
            this.row = row;
            this.col = col;
            this.heads = heads;
            this.geese = geese;
        }
    }

    static final class Member {
        int cell;
        int wants;
        int pays;
    }

    static final class State {
        int lines;
        int wide;
        int high;
        int law;
        int ear;
        int odds;
        List<Flight> flights = new ArrayList<>();
        List<Member> members = new ArrayList<>();
        Set<Integer> lamps = new HashSet<>();
        /** The whole state ahead of each act, oldest first. */
        List<State> before = new ArrayList<>();

        State copy() {
            State s = bare();
            for (State b : before) {
                s.before.add(b.bare());
            }
            return s;
        }

        State bare() {
            State s = new State();
            s.lines = lines;
            s.wide = wide;
            s.high = high;
            s.law = law;
            s.ear = ear;
            s.odds = odds;
            for (Flight f : flights) {
                s.flights.add(new Flight(f.row, f.col, f.heads, f.geese));
            }
            for (Member m : members) {
                Member c = new Member();
                c.cell = m.cell;
                c.wants = m.wants;
                c.pays = m.pays;
                s.members.add(c);
            }
            s.lamps.addAll(lamps);
            return s;
        }
    }

    static final class Spot {
        final int cell;
        final int heads;
        final boolean turned;

        Spot(int cell, int heads, boolean turned) {
            this.cell = cell;
            this.heads = heads;
            this.turned = turned;
        }
    }

    private String tape = "";
    private State s = null;
    private int fault = 0;
    private int place = -1;
    private boolean[] imaged = new boolean[3];
    private State[] images = new State[3];
    private long[][] rows = new long[4][];
    private int[] widths = new int[4];

    // ---- the tape

    public int feed(int a, int b, int c, int d, int e) {
        if (tape.length() > 780) {
            return -1;
        }
        for (int v : new int[] {a, b, c, d, e}) {
            tape += (char) (v >>> 24) + "" + (char) (v >>> 16 & 255) + (char) (v >>> 8 & 255) + (char) (v & 255);
        }
        return tape.length();
    }

    public int end(int n) {
        if (n < 0 || n > tape.length()) {
            return -1;
        }
        tape = tape.substring(0, n);
        return n;
    }

    /** Tokens with their places; the end is an empty one. */
    static TreeMap<Integer, String> tokens(String text) {
        TreeMap<Integer, String> found = new TreeMap<>();
        java.util.regex.Matcher m = java.util.regex.Pattern.compile("[a-z]+|[0-9]+|[^ \\n]",
                java.util.regex.Pattern.DOTALL).matcher(text);
        while (m.find()) {
            found.put(m.start(), m.group());
        }
        found.put(text.length(), "");
        return found;
    }

    public int land() {
        fault = 0;
        place = -1;
        State d = new State();
        TreeMap<Integer, String> tokens = tokens(tape);
        List<String> line = new ArrayList<>();
        for (int p : tokens.keySet()) {
            String t = tokens.get(p);
            if (t.isEmpty() && line.isEmpty()) {
                break;
            }
            int f = accepts(d, line, t);
            if (f != 0) {
                fault = f;
                place = p;
                return -4;
            }
            line.add(t);
            if (t.equals(";")) {
                take(d, line);
                line.clear();
            }
        }
        tape = "";
        s = d.lines == 0 ? null : d;
        return d.lines;
    }

    static final String[][] SHAPES = {
        {"land", "wide", "1-5", "high", "1-4", "law", "0-3", "ear", "0-8", "odds", "0-10", ";"},
        {"flight", "at", "C", "heads", "0-3", "geese", "1-20", ";"},
        {"member", "at", "C", "wants", "0-99", "pays", "0-99", ";"},
        {"lamp", "at", "C", ";"}};

    int accepts(State d, List<String> line, String t) {
        String[] shape = null;
        for (String[] candidate : SHAPES) {
            if (candidate[0].equals(line.isEmpty() ? t : line.get(0))) {
                shape = candidate;
            }
        }
        if (shape == null || line.isEmpty() && (d.lines == 0) != t.equals("land")) {
            return 1;
        }
        if (line.isEmpty()) {
            boolean tooMany = t.equals("flight") && d.flights.size() == 4 || t.equals("member") && d.members.size() == 6;
            return tooMany ? 3 : 0;
        }
        String wanted = shape[line.size()];
        if (wanted.equals("C")) {
            wanted = "0-" + (d.wide * d.high - 1);
        }
        if (!wanted.contains("-")) {
            return wanted.equals(t) ? 0 : 1;
        }
        if (!t.matches("[0-9]+")) {
            return 1;
        }
        java.math.BigInteger v = new java.math.BigInteger(t);
        java.math.BigInteger low = new java.math.BigInteger(wanted.split("-")[0]);
        java.math.BigInteger high = new java.math.BigInteger(wanted.split("-")[1]);
        return v.compareTo(low) < 0 || v.compareTo(high) > 0 ? 2 : acceptsAndNotes(d, line, t);
    }

    /** The size counts for cells of later lines only, so it can be noted at once. */
    int acceptsAndNotes(State d, List<String> line, String t) {
        if (line.get(0).equals("land")) {
            int v = Integer.parseInt(t);
            switch (line.get(line.size() - 1)) {
                case "wide": d.wide = v; break;
                case "high": d.high = v; break;
                case "law": d.law = v; break;
                case "ear": d.ear = v; break;
                default: d.odds = v; break;
            }
        }
        return 0;
    }

    void take(State d, List<String> line) {
        d.lines++;
        if (line.get(0).equals("land")) {
            return;
        }
        int cell = Integer.parseInt(line.get(2));
        if (line.get(0).equals("flight")) {
            d.flights.add(new Flight(cell / d.wide, cell % d.wide, Integer.parseInt(line.get(4)), Integer.parseInt(line.get(6))));
        } else if (line.get(0).equals("member")) {
            Member m = new Member();
            m.cell = cell;
            m.wants = Integer.parseInt(line.get(4));
            m.pays = Integer.parseInt(line.get(6));
            d.members.add(m);
        } else {
            d.lamps.add(cell);
        }
    }

    public int fault(int what) {
        return what == 0 ? fault : what == 1 ? place : -1;
    }

    // ---- what is there

    boolean noFlight(int f) {
        return s == null || f < 0 || f >= s.flights.size();
    }

    boolean noMember(int m) {
        return s == null || m < 0 || m >= s.members.size();
    }

    boolean noCell(int c) {
        return s == null || c < 0 || c >= s.wide * s.high;
    }

    static boolean not(int v, int low, int high) {
        return v < low || v > high;
    }

    int bits(Set<Integer> set) {
        int b = 0;
        for (int i : set) {
            b |= 1 << i;
        }
        return b;
    }

    public int flight(int f, int what) {
        if (noFlight(f) || not(what, 0, 2)) {
            return -2;
        }
        Flight x = s.flights.get(f);
        return new int[] {x.row * s.wide + x.col, x.heads, x.geese}[what];
    }

    public int member(int m, int what) {
        if (noMember(m) || not(what, 0, 2)) {
            return -2;
        }
        Member x = s.members.get(m);
        return new int[] {x.cell, x.wants, x.pays}[what];
    }

    public int lamps() {
        return s == null ? -2 : bits(s.lamps);
    }

    // ---- flying

    List<Spot> fly(Flight f, Set<Integer> lamps, int law) {
        int r = f.row;
        int c = f.col;
        int h = f.heads;
        List<Spot> path = new ArrayList<>();
        for (int t = 0; t <= 40; t++) {
            if (r < 0 || c < 0 || r >= s.high || c >= s.wide) {
                break;
            }
            boolean lit = lamps.contains(r * s.wide + c);
            if (lit) {
                int right = new int[] {1, 2, 3, 0}[h];
                int left = new int[] {3, 0, 1, 2}[h];
                int back = new int[] {2, 3, 0, 1}[h];
                h = law == 0 ? right : law == 1 ? left : law == 2 ? back : t % 2 == 0 ? right : left;
            }
            path.add(new Spot(r * s.wide + c, h, lit));
            if (h == 0) {
                r--;
            } else if (h == 1) {
                c++;
            } else if (h == 2) {
                r++;
            } else {
                c--;
            }
        }
        return path;
    }

    List<Spot> path(int f) {
        return fly(s.flights.get(f), s.lamps, s.law);
    }

    boolean close(int a, int b) {
        return apart(a, b) <= s.ear;
    }

    int apart(int a, int b) {
        return Math.abs(a / s.wide - b / s.wide) + Math.abs(a % s.wide - b % s.wide);
    }

    List<List<Spot>> paths(Set<Integer> lamps, int law) {
        List<List<Spot>> all = new ArrayList<>();
        for (Flight f : s.flights) {
            all.add(fly(f, lamps, law));
        }
        return all;
    }

    /** HEARD in a cell, of the flights that are not in fog. */
    int loudness(int cell, List<List<Spot>> paths, Set<Integer> fog) {
        int sum = 0;
        for (int f = 0; f < s.flights.size(); f++) {
            if (!fog.contains(f)) {
                for (Spot p : paths.get(f)) {
                    if (close(p.cell, cell)) {
                        sum += s.flights.get(f).geese;
                    }
                }
            }
        }
        return sum;
    }

    int loudNow(int cell) {
        return loudness(cell, paths(s.lamps, s.law), Set.of());
    }

    boolean content(int m, int loudness) {
        int wants = s.members.get(m).wants;
        return wants >= 1 && loudness >= wants;
    }

    Set<Integer> servedSet(Set<Integer> lamps, int law, Set<Integer> fog) {
        Set<Integer> set = new HashSet<>();
        List<List<Spot>> paths = paths(lamps, law);
        for (int m = 0; m < s.members.size(); m++) {
            if (content(m, loudness(s.members.get(m).cell, paths, fog))) {
                set.add(m);
            }
        }
        return set;
    }

    Set<Integer> servedNow() {
        return servedSet(s.lamps, s.law, Set.of());
    }

    int paid(Set<Integer> group) {
        int sum = 0;
        for (int m : group) {
            sum += s.members.get(m).pays;
        }
        return sum;
    }

    public int at(int f, int step) {
        if (noFlight(f) || not(step, 0, 40)) {
            return -2;
        }
        List<Spot> p = path(f);
        return step < p.size() ? p.get(step).cell : -1;
    }

    public int heads(int f, int step) {
        if (noFlight(f) || not(step, 0, 40)) {
            return -2;
        }
        List<Spot> p = path(f);
        return step < p.size() ? p.get(step).heads : -1;
    }

    public int out(int f) {
        if (noFlight(f)) {
            return -2;
        }
        for (int t = 0; t <= 40; t++) {
            if (at(f, t) == -1) {
                return t;
            }
        }
        return -1;
    }

    public int bends(int f) {
        if (noFlight(f)) {
            return -2;
        }
        int n = 0;
        for (Spot p : path(f)) {
            n += p.turned ? 1 : 0;
        }
        return n;
    }

    public int way(int f) {
        if (noFlight(f)) {
            return -2;
        }
        Set<Integer> set = new HashSet<>();
        for (Spot p : path(f)) {
            set.add(p.cell);
        }
        return bits(set);
    }

    public int over(int cell) {
        if (noCell(cell)) {
            return -2;
        }
        int b = 0;
        for (int f = 0; f < s.flights.size(); f++) {
            for (int t = 0; t <= 40; t++) {
                if (at(f, t) == cell) {
                    b |= 1 << f;
                }
            }
        }
        return b;
    }

    public int geese(int cell, int step) {
        if (noCell(cell) || not(step, 0, 40)) {
            return -2;
        }
        int n = 0;
        for (int f = 0; f < s.flights.size(); f++) {
            if (at(f, step) == cell) {
                n += s.flights.get(f).geese;
            }
        }
        return n;
    }

    public int hears(int m, int f) {
        if (noMember(m) || noFlight(f)) {
            return -2;
        }
        int n = 0;
        for (Spot p : path(f)) {
            if (close(p.cell, s.members.get(m).cell)) {
                n++;
            }
        }
        return n;
    }

    public int heard(int m) {
        if (noMember(m)) {
            return -2;
        }
        int n = 0;
        for (int f = 0; f < s.flights.size(); f++) {
            n += hears(m, f) * s.flights.get(f).geese;
        }
        return n;
    }

    public int ears(int cell) {
        return noCell(cell) ? -2 : loudNow(cell);
    }

    public int loud() {
        if (s == null) {
            return -2;
        }
        int greatest = 0;
        for (int c = 0; c < s.wide * s.high; c++) {
            greatest = Math.max(greatest, loudNow(c));
        }
        int c = 0;
        while (loudNow(c) != greatest) {
            c++;
        }
        return c;
    }

    public int quiet() {
        if (s == null) {
            return -2;
        }
        int b = 0;
        for (int c = 0; c < s.wide * s.high; c++) {
            b |= loudNow(c) == 0 ? 1 << c : 0;
        }
        return b;
    }

    public int served() {
        return s == null ? -2 : bits(servedNow());
    }

    public int income() {
        return s == null ? -2 : paid(servedNow());
    }

    public int unpaid() {
        if (s == null) {
            return -2;
        }
        int b = 0;
        for (int m = 0; m < s.members.size(); m++) {
            b |= s.members.get(m).wants == 0 && heard(m) > 0 ? 1 << m : 0;
        }
        return b;
    }

    public int first() {
        if (s == null) {
            return -2;
        }
        int who = unpaid();
        for (int t = 0; t <= 40; t++) {
            for (int m = 0; m < s.members.size(); m++) {
                for (int f = 0; f < s.flights.size(); f++) {
                    int cell = at(f, t);
                    if ((who >> m & 1) == 1 && cell >= 0 && close(cell, s.members.get(m).cell)) {
                        return t;
                    }
                }
            }
        }
        return -1;
    }

    public int lacks() {
        if (s == null) {
            return -2;
        }
        int who = -1;
        for (int m = 0; m < s.members.size(); m++) {
            int lack = s.members.get(m).wants - heard(m);
            if (lack > 0 && (who < 0 || lack > s.members.get(who).wants - heard(who))) {
                who = m;
            }
        }
        return who;
    }

    public int near(int m) {
        if (noMember(m)) {
            return -2;
        }
        int b = 0;
        for (int f = 0; f < s.flights.size(); f++) {
            b |= hears(m, f) > 0 ? 1 << f : 0;
        }
        return b;
    }

    public int lone() {
        if (s == null) {
            return -2;
        }
        int b = 0;
        for (int m = 0; m < s.members.size(); m++) {
            b |= heard(m) == 0 ? 1 << m : 0;
        }
        return b;
    }

    public int meets(int f, int g) {
        if (noFlight(f) || noFlight(g)) {
            return -2;
        }
        for (int t = 0; t <= 40; t++) {
            if (at(f, t) != -1 && at(f, t) == at(g, t)) {
                return t;
            }
        }
        return -1;
    }

    public int spare() {
        if (s == null) {
            return -2;
        }
        int n = 0;
        for (int m : servedNow()) {
            n += heard(m) - s.members.get(m).wants;
        }
        return n;
    }

    public int calls(int step) {
        if (s == null || not(step, 0, 40)) {
            return -2;
        }
        int n = 0;
        for (int c = 0; c < s.wide * s.high; c++) {
            n += geese(c, step);
        }
        return n;
    }

    public int farthest(int f) {
        if (noFlight(f)) {
            return -2;
        }
        int start = at(f, 0);
        int best = -1;
        for (int c = 0; c < s.wide * s.high; c++) {
            if ((way(f) >> c & 1) == 1 && (best < 0 || apart(start, c) > apart(start, best))) {
                best = c;
            }
        }
        return best;
    }

    // ---- lamps in place of those lit

    Set<Integer> setOf(int b) {
        Set<Integer> set = new HashSet<>();
        for (int i = 0; i < 20; i++) {
            if ((b >> i & 1) == 1) {
                set.add(i);
            }
        }
        return set;
    }

    private static final TreeMap<Integer, List<Integer>> LAMP_SETS = new TreeMap<>();

    /** All sets of up to n lamps, fewest first, the least first of as many. */
    List<Integer> lampSets(int n) {
        int cells = s.wide * s.high;
        return LAMP_SETS.computeIfAbsent(10 * cells + n, key -> {
            List<Integer> all = new ArrayList<>();
            for (int size = 0; size <= n; size++) {
                for (int b = 0; b < 1 << cells; b++) {
                    if (Integer.bitCount(b) == size) {
                        all.add(b);
                    }
                }
            }
            return all;
        });
    }

    /** By each set of lamps, in their order, who is served. */
    List<Integer> servedByAll() {
        List<Integer> all = new ArrayList<>();
        for (int lamps : lampSets(3)) {
            all.add(bits(servedSet(setOf(lamps), s.law, Set.of())));
        }
        return all;
    }

    int firstLamps(int members, List<Integer> servedByAll) {
        for (int i = 0; i < servedByAll.size(); i++) {
            if ((servedByAll.get(i) & members) == members) {
                return lampSets(3).get(i);
            }
        }
        return -1;
    }

    boolean noSet(int members) {
        return s == null || not(members, 0, (1 << s.members.size()) - 1);
    }

    public int fewest(int members) {
        if (noSet(members)) {
            return -2;
        }
        int lamps = firstLamps(members, servedByAll());
        return lamps < 0 ? -1 : Integer.bitCount(lamps);
    }

    public int lights(int members) {
        return noSet(members) ? -2 : firstLamps(members, servedByAll());
    }

    public int best(int n) {
        if (s == null || not(n, 0, 3)) {
            return -2;
        }
        int greatest = 0;
        for (int lamps : lampSets(n)) {
            greatest = Math.max(greatest, paid(servedSet(setOf(lamps), s.law, Set.of())));
        }
        return greatest;
    }

    public int bests(int n) {
        if (s == null || not(n, 0, 3)) {
            return -2;
        }
        int greatest = best(n);
        for (int lamps : lampSets(n)) {
            if (paid(servedSet(setOf(lamps), s.law, Set.of())) == greatest) {
                return lamps;
            }
        }
        return -99;
    }

    public int most(int n) {
        if (s == null || not(n, 0, 3)) {
            return -2;
        }
        int greatest = 0;
        for (int lamps : lampSets(n)) {
            greatest = Math.max(greatest, servedSet(setOf(lamps), s.law, Set.of()).size());
        }
        return greatest;
    }

    public int more() {
        if (s == null) {
            return -2;
        }
        int best = -1;
        int greatest = income();
        for (int c = 0; c < s.wide * s.high; c++) {
            Set<Integer> lamps = new HashSet<>(s.lamps);
            lamps.add(c);
            int sum = paid(servedSet(lamps, s.law, Set.of()));
            if (sum > greatest) {
                greatest = sum;
                best = c;
            }
        }
        return best;
    }

    public int less() {
        if (s == null) {
            return -2;
        }
        int best = -1;
        int greatest = income();
        for (int c = 0; c < s.wide * s.high; c++) {
            Set<Integer> lamps = new HashSet<>(s.lamps);
            lamps.remove(c);
            int sum = paid(servedSet(lamps, s.law, Set.of()));
            if (sum > greatest) {
                greatest = sum;
                best = c;
            }
        }
        return best;
    }

    public int by(int law) {
        return s == null || not(law, 0, 3) ? -2 : paid(servedSet(s.lamps, law, Set.of()));
    }

    public int law() {
        if (s == null) {
            return -2;
        }
        int greatest = Math.max(Math.max(by(0), by(1)), Math.max(by(2), by(3)));
        int law = 0;
        while (by(law) != greatest) {
            law++;
        }
        return law;
    }

    // ---- rows that tell something

    int refusal(int slot, int each) {
        if (s == null || not(slot, 0, 3)) {
            return -2;
        }
        if (rows[slot] == null) {
            return -6;
        }
        if (rows[slot].length % each != 0) {
            return -2;
        }
        for (int i = 0; i < rows[slot].length; i++) {
            long v = rows[slot][i];
            long[][] bounds = each == 3
                    ? new long[][] {{0, s.flights.size() - 1}, {0, 40}, {-1, s.wide * s.high - 1}}
                    : new long[][] {{0, s.members.size() - 1}, {0, 1}};
            if (v < bounds[i % each][0] || v > bounds[i % each][1]) {
                return -2;
            }
        }
        return 0;
    }

    Set<Integer> lawsLeft(int slot) {
        Set<Integer> left = new HashSet<>();
        for (int law = 0; law < 4; law++) {
            boolean fits = true;
            for (int i = 0; i < rows[slot].length; i += 3) {
                List<Spot> p = fly(s.flights.get((int) rows[slot][i]), s.lamps, law);
                int t = (int) rows[slot][i + 1];
                fits &= (t < p.size() ? p.get(t).cell : -1) == rows[slot][i + 2];
            }
            if (fits) {
                left.add(law);
            }
        }
        return left;
    }

    public int laws(int slot) {
        return refusal(slot, 3) != 0 ? refusal(slot, 3) : bits(lawsLeft(slot));
    }

    public int ask(int slot) {
        if (refusal(slot, 3) != 0) {
            return refusal(slot, 3);
        }
        Set<Integer> left = lawsLeft(slot);
        int best = -1;
        int fewest = left.size();
        for (int f = 0; f < s.flights.size(); f++) {
            TreeMap<Integer, Integer> byOut = new TreeMap<>();
            int worst = 0;
            for (int law : left) {
                worst = Math.max(worst, byOut.merge(fly(s.flights.get(f), s.lamps, law).size(), 1, Integer::sum));
            }
            if (worst < fewest) {
                fewest = worst;
                best = f;
            }
        }
        return best;
    }

    boolean hearsNew(int m, int cell, int heads) {
        for (Spot p : fly(new Flight(cell / s.wide, cell % s.wide, heads, 1), s.lamps, s.law)) {
            if (close(p.cell, s.members.get(m).cell)) {
                return true;
            }
        }
        return false;
    }

    /** Each as ten times the cell and the heading. */
    List<Integer> beginnings(int slot) {
        List<Integer> left = new ArrayList<>();
        for (int cell = 0; cell < s.wide * s.high; cell++) {
            for (int heads = 0; heads < 4; heads++) {
                boolean fits = true;
                for (int i = 0; i < rows[slot].length; i += 2) {
                    fits &= hearsNew((int) rows[slot][i], cell, heads) == (rows[slot][i + 1] == 1);
                }
                if (fits) {
                    left.add(10 * cell + heads);
                }
            }
        }
        return left;
    }

    public int began(int slot) {
        return refusal(slot, 2) != 0 ? refusal(slot, 2) : beginnings(slot).size();
    }

    public int spots(int slot) {
        if (refusal(slot, 2) != 0) {
            return refusal(slot, 2);
        }
        Set<Integer> set = new HashSet<>();
        for (int b : beginnings(slot)) {
            set.add(b / 10);
        }
        return bits(set);
    }

    int yes(int slot, int m) {
        int n = 0;
        for (int b : beginnings(slot)) {
            n += hearsNew(m, b / 10, b % 10) ? 1 : 0;
        }
        return n;
    }

    public int who(int slot) {
        if (refusal(slot, 2) != 0) {
            return refusal(slot, 2);
        }
        int all = beginnings(slot).size();
        int best = -1;
        int fewest = all;
        for (int m = 0; m < s.members.size(); m++) {
            int worst = Math.max(yes(slot, m), all - yes(slot, m));
            if (worst < fewest) {
                fewest = worst;
                best = m;
            }
        }
        return best;
    }

    public int leaves(int slot) {
        int m = who(slot);
        if (m < -1) {
            return m;
        }
        int all = beginnings(slot).size();
        return m == -1 ? all : Math.max(yes(slot, m), all - yes(slot, m));
    }

    static int fraction(long above, long below, int what) {
        java.math.BigInteger g = java.math.BigInteger.valueOf(above).gcd(java.math.BigInteger.valueOf(below));
        return (int) ((what == 0 ? above : below) / g.longValue());
    }

    public int odds(int slot, int m, int what) {
        if (noMember(m) || not(what, 0, 1)) {
            return -2;
        }
        if (refusal(slot, 2) != 0) {
            return refusal(slot, 2);
        }
        int all = beginnings(slot).size();
        return all == 0 ? -1 : fraction(yes(slot, m), all, what);
    }

    // ---- homes, swaps, prices, cuts

    static List<List<Integer>> orders(int n) {
        List<List<Integer>> all = new ArrayList<>();
        if (n == 0) {
            all.add(new ArrayList<>());
            return all;
        }
        for (List<Integer> shorter : orders(n - 1)) {
            for (int i = 0; i < n; i++) {
                List<Integer> longer = new ArrayList<>(shorter);
                longer.add(i, n - 1);
                all.add(longer);
            }
        }
        return all;
    }

    int[] bestHomes() {
        int n = s.members.size();
        int[] heardThere = new int[n];
        for (int h = 0; h < n; h++) {
            heardThere[h] = loudNow(s.members.get(h).cell);
        }
        int[] best = null;
        for (List<Integer> order : orders(n)) {
            int[] row = new int[n + 1];
            for (int m = 0; m < n; m++) {
                row[0] -= content(m, heardThere[order.get(m)]) ? s.members.get(m).pays : 0;
                row[m + 1] = s.members.get(order.get(m)).cell;
            }
            if (best == null || Arrays.compare(row, best) < 0) {
                best = row;
            }
        }
        return best;
    }

    public int homes() {
        return s == null ? -2 : -bestHomes()[0];
    }

    public int home(int m) {
        return noMember(m) ? -2 : bestHomes()[m + 1];
    }

    List<Integer> goodSwaps() {
        List<Integer> all = new ArrayList<>();
        Set<Integer> now = servedNow();
        for (int a = 0; a < s.members.size(); a++) {
            for (int b = a + 1; b < s.members.size(); b++) {
                boolean both = content(a, loudNow(s.members.get(b).cell)) && content(b, loudNow(s.members.get(a).cell));
                if (both && !(now.contains(a) && now.contains(b))) {
                    all.add(10 * a + b);
                }
            }
        }
        return all;
    }

    public int swaps() {
        return s == null ? -2 : goodSwaps().size();
    }

    public int swap() {
        return s == null ? -2 : goodSwaps().isEmpty() ? -1 : goodSwaps().get(0);
    }

    public int price(int n) {
        if (s == null || not(n, 0, 999)) {
            return -2;
        }
        for (int p = 0; p <= 999; p++) {
            int sum = 0;
            for (Member m : s.members) {
                if (m.wants > 0 && (double) m.pays / m.wants >= p) {
                    sum += m.wants;
                }
            }
            if (sum <= n) {
                return p;
            }
        }
        return -99;
    }

    int cost(Set<Integer> group, List<Integer> servedByAll) {
        Set<Integer> some = new HashSet<>(group);
        some.removeIf(m -> s.members.get(m).wants == 0);
        int lamps = firstLamps(bits(some), servedByAll);
        return lamps < 0 ? -1 : Integer.bitCount(lamps);
    }

    public int cut(int m, int what) {
        if (noMember(m) || not(what, 0, 1)) {
            return -2;
        }
        List<Integer> known = servedByAll();
        if (cost(setOf((1 << s.members.size()) - 1), known) < 0) {
            return -1;
        }
        int sum = 0;
        int orders = 0;
        for (List<Integer> order : orders(s.members.size())) {
            Set<Integer> come = new HashSet<>(order.subList(0, order.indexOf(m)));
            int without = cost(come, known);
            come.add(m);
            sum += cost(come, known) - without;
            orders++;
        }
        return fraction(sum, orders, what);
    }

    // ---- the game

    public int has(int m, int o, int lights, int otherLights) {
        if (noMember(m) || noMember(o) || m == o || not(lights, 0, 1) || not(otherLights, 0, 1)) {
            return -1000;
        }
        Set<Integer> lamps = new HashSet<>(s.lamps);
        lamps.remove(s.members.get(m).cell);
        lamps.remove(s.members.get(o).cell);
        if (lights == 1) {
            lamps.add(s.members.get(m).cell);
        }
        if (otherLights == 1) {
            lamps.add(s.members.get(o).cell);
        }
        return (servedSet(lamps, s.law, Set.of()).contains(m) ? s.members.get(m).pays : 0) - 5 * lights;
    }

    public int rests(int m, int o) {
        if (noMember(m) || noMember(o) || m == o) {
            return -2;
        }
        int b = 0;
        b |= has(m, o, 1, 0) <= has(m, o, 0, 0) && has(o, m, 1, 0) <= has(o, m, 0, 0) ? 1 : 0;
        b |= has(m, o, 0, 0) <= has(m, o, 1, 0) && has(o, m, 1, 1) <= has(o, m, 0, 1) ? 2 : 0;
        b |= has(m, o, 1, 1) <= has(m, o, 0, 1) && has(o, m, 0, 0) <= has(o, m, 1, 0) ? 4 : 0;
        b |= has(m, o, 0, 1) <= has(m, o, 1, 1) && has(o, m, 0, 1) <= has(o, m, 1, 1) ? 8 : 0;
        return b;
    }

    // ---- fog

    /** All nights there are if each flight drew one of ten numbers, as sets of flights in fog. */
    List<Set<Integer>> nights() {
        List<Set<Integer>> all = new ArrayList<>();
        int n = (int) Math.round(Math.pow(10, s.flights.size()));
        for (int i = 0; i < n; i++) {
            Set<Integer> fog = new HashSet<>();
            int rest = i;
            for (int f = 0; f < s.flights.size(); f++) {
                if (rest % 10 < s.odds) {
                    fog.add(f);
                }
                rest /= 10;
            }
            all.add(fog);
        }
        return all;
    }

    Set<Integer> servedIn(Set<Integer> fog, TreeMap<Integer, Set<Integer>> known) {
        return known.computeIfAbsent(bits(fog), b -> servedSet(s.lamps, s.law, fog));
    }

    public int chance(int m, int what) {
        if (noMember(m) || not(what, 0, 1)) {
            return -2;
        }
        TreeMap<Integer, Set<Integer>> known = new TreeMap<>();
        int n = 0;
        for (Set<Integer> fog : nights()) {
            n += servedIn(fog, known).contains(m) ? 1 : 0;
        }
        return fraction(n, nights().size(), what);
    }

    public int mean(int what) {
        if (s == null || not(what, 0, 1)) {
            return -2;
        }
        TreeMap<Integer, Set<Integer>> known = new TreeMap<>();
        int n = 0;
        for (Set<Integer> fog : nights()) {
            n += paid(servedIn(fog, known));
        }
        return fraction(n, nights().size(), what);
    }

    public int flown(int n, int what) {
        if (s == null || not(n, 0, 4) || not(what, 0, 1)) {
            return -2;
        }
        int many = 0;
        for (Set<Integer> fog : nights()) {
            many += s.flights.size() - fog.size() >= n ? 1 : 0;
        }
        return fraction(many, nights().size(), what);
    }

    Set<Integer> drawNight(int seed) {
        java.math.BigInteger x = java.math.BigInteger.valueOf(seed);
        Set<Integer> fog = new HashSet<>();
        for (int f = 0; f < s.flights.size(); f++) {
            x = x.multiply(java.math.BigInteger.valueOf(1103515245)).add(java.math.BigInteger.valueOf(12345));
            x = x.mod(java.math.BigInteger.valueOf(2147483648L));
            if (x.longValue() / 65536 % 10 < s.odds) {
                fog.add(f);
            }
        }
        return fog;
    }

    public int drawn(int seed, int what) {
        if (s == null || not(seed, 0, 2000000000) || not(what, 0, 1)) {
            return -2;
        }
        Set<Integer> fog = drawNight(seed);
        return what == 0 ? bits(fog) : bits(servedSet(s.lamps, s.law, fog));
    }

    public int luck(int seed, int n, int m) {
        if (noMember(m) || not(seed, 0, 2000000000) || not(n, 1, 20)) {
            return -2;
        }
        int many = 0;
        for (int i = 0; i < n; i++) {
            many += servedSet(s.lamps, s.law, drawNight(seed + i)).contains(m) ? 1 : 0;
        }
        return many;
    }

    // ---- acts

    void act() {
        List<State> before = s.before;
        State was = s.bare();
        before.add(was);
    }

    public int light(int cell, int on) {
        if (noCell(cell) || not(on, 0, 1)) {
            return -2;
        }
        if (s.before.size() == 40) {
            return -5;
        }
        act();
        int was = s.lamps.contains(cell) ? 1 : 0;
        if (on == 1) {
            s.lamps.add(cell);
        } else {
            s.lamps.remove(cell);
        }
        return was;
    }

    public int turn(int f, int heads) {
        if (noFlight(f) || not(heads, 0, 3)) {
            return -2;
        }
        if (s.before.size() == 40) {
            return -5;
        }
        act();
        int was = s.flights.get(f).heads;
        s.flights.get(f).heads = heads;
        return was;
    }

    public int undo() {
        if (s == null) {
            return -2;
        }
        if (s.before.isEmpty()) {
            return -5;
        }
        List<State> before = s.before;
        s = before.remove(before.size() - 1);
        s.before = before;
        return before.size();
    }

    public int anew() {
        if (s == null) {
            return -2;
        }
        int n = s.before.size();
        while (!s.before.isEmpty()) {
            undo();
        }
        return n;
    }

    public int rate(int m, int n) {
        if (noMember(m) || not(n, 0, 99)) {
            return -2;
        }
        if (!s.before.isEmpty()) {
            return -5;
        }
        int was = s.members.get(m).pays;
        s.members.get(m).pays = n;
        return was;
    }

    public int count(int what) {
        int had = 0;
        for (long[] row : rows) {
            had += row == null ? 0 : 1;
        }
        State x = s == null ? new State() : s;
        int[] all = {x.wide, x.high, x.law, x.ear, x.odds, x.wide * x.high, x.flights.size(), x.members.size(),
            x.before.size(), x.lines, tape.length(), had};
        return not(what, 0, 11) ? -1 : all[what];
    }

    public int image(int k) {
        if (not(k, 0, 2)) {
            return -2;
        }
        imaged[k] = true;
        images[k] = s == null ? null : s.copy();
        return 0;
    }

    public int back(int k) {
        if (not(k, 0, 2)) {
            return -2;
        }
        if (!imaged[k]) {
            return -6;
        }
        s = images[k] == null ? null : images[k].copy();
        return 0;
    }

    // ---- slots

    public int row(int slot, int width, int n) {
        if (not(slot, 0, 3) || not(width, 0, 3) || n > 60) {
            return -2;
        }
        if (n < 0) {
            return -3;
        }
        rows[slot] = new long[n];
        widths[slot] = width;
        return 0;
    }

    public int write(int slot, int i, long v) {
        if (not(slot, 0, 3)) {
            return -2;
        }
        if (rows[slot] == null) {
            return -6;
        }
        if (not(i, 0, rows[slot].length - 1)) {
            return -7;
        }
        int away = 64 - 8 * new int[] {1, 2, 4, 8}[widths[slot]];
        rows[slot][i] = v << away >> away;
        return 0;
    }

    public int paste(int slot, int i, int to, int k, int n) {
        if (not(slot, 0, 3) || not(to, 0, 3)) {
            return -2;
        }
        if (rows[slot] == null || rows[to] == null) {
            return -6;
        }
        if (widths[slot] != widths[to]) {
            return -8;
        }
        if (i < 0 || k < 0 || n < 0 || (long) i + n > rows[slot].length || (long) k + n > rows[to].length) {
            return -7;
        }
        long[] were = rows[slot].clone();
        for (int j = 0; j < n; j++) {
            rows[to][k + j] = were[i + j];
        }
        return 0;
    }
}
