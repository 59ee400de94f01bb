import java.util.ArrayList;
import java.util.Comparator;
import java.util.HashMap;
import java.util.LinkedHashMap;
import java.util.LinkedHashSet;
import java.util.List;
import java.util.Map;
import java.util.Set;
import java.util.TreeMap;

/**
 * The document once more, written for plainness with the library's collections, so that random runs can be
 * compared. It shares no code with KeeperHouse: a content is a text of digits, a piece too.
 */
final class Model {
    static final int NONE = -1;

    static final class V {
        int file;
        int time;
        int machine;
        int folder;
        String content; // null: a deletion
        boolean kept = true;
    }

    static final class F {
        boolean has;
        boolean known;
        String content; // null unless it has it there with its content
        int folder = NONE;
        int seen = NONE;
        boolean pinned;
        int openedAs = 0;
    }

    static final class Event {
        int machine;
        int file;
        int due;
    }

    final StringBuilder draft = new StringBuilder();
    final F[][] f = new F[3][16];
    final List<List<Integer>> notes = new ArrayList<>();
    final int[] lateness = new int[3];
    final int[] room = {100, 100, 100};
    final List<Event> events = new ArrayList<>();
    final List<V> versions = new ArrayList<>();
    final List<Integer> entries = new ArrayList<>();
    final LinkedHashMap<String, Integer> packOf = new LinkedHashMap<>();
    final Set<String> damaged = new LinkedHashSet<>();
    final Set<String> second = new LinkedHashSet<>();
    final Map<Integer, int[]> locks = new HashMap<>();
    final Map<Integer, int[]> shares = new HashMap<>();
    final List<int[]> holds = new ArrayList<>();
    final Map<String, Integer> happened = new TreeMap<>();
    int packs = 0;
    int time = 0;
    int opening = 0;
    int conflicts = 0;
    int refused = 0;
    int uploadedPieces = 0;

    Model() {
        for (int m = 0; m < 3; m++) {
            notes.add(new ArrayList<>());
            for (int k = 0; k < 16; k++) {
                f[m][k] = new F();
            }
        }
    }

    void happen(String what) {
        happened.merge(what, 1, Integer::sum);
    }

    static void index(boolean isFine) {
        if (!isFine) {
            throw new IndexOutOfBoundsException();
        }
    }

    static void argument(boolean isFine) {
        if (!isFine) {
            throw new IllegalArgumentException();
        }
    }

    static void state(boolean isFine) {
        if (!isFine) {
            throw new IllegalStateException();
        }
    }

    static void machineAndFile(int m, int file) {
        index(m >= 0 && m <= 2 && file >= 0 && file <= 15);
    }

    static List<String> pieces(String content) {
        List<String> all = new ArrayList<>();
        String rest = content == null ? "" : content;
        while (!rest.isEmpty()) {
            int end = Math.min(4, rest.length());
            int zero = rest.indexOf('0');
            if (zero >= 0 && zero + 1 < end) {
                end = zero + 1;
            }
            all.add(rest.substring(0, end));
            rest = rest.substring(end);
        }
        return all;
    }

    V latest(int file) {
        int n = latestNumber(file);
        return n == NONE ? null : versions.get(n);
    }

    int latestNumber(int file) {
        int n = NONE;
        for (int i = 0; i < versions.size(); i++) {
            if (versions.get(i).file == file) {
                n = i;
            }
        }
        return n;
    }

    boolean isInHouse(int file) {
        V v = latest(file);
        return v != null && v.content != null;
    }

    boolean isChangedAt(int m, int file) {
        F x = f[m][file];
        V s = x.seen == NONE ? null : versions.get(x.seen);
        boolean seenThere = s != null && s.content != null;
        if (x.has != seenThere) {
            return true;
        }
        if (!x.has || x.known) {
            return false;
        }
        return !x.content.equals(s.content) || x.folder != s.folder;
    }

    int rightNow(int folder, int m) {
        int[] s = shares.get(folder * 10 + m);
        return s == null ? 2 : time < s[1] ? s[0] : 0;
    }

    int lockHolder(int file) {
        int[] l = locks.get(file);
        return l != null && time < l[1] ? l[0] : NONE;
    }

    void edit(int m, int file) {
        if (lateness[m] == 0) {
            note(m, file);
        } else {
            Event e = new Event();
            e.machine = m;
            e.file = file;
            e.due = time + lateness[m];
            events.add(e);
        }
    }

    boolean note(int m, int file) {
        if (notes.get(m).contains(file)) {
            return false;
        }
        notes.get(m).add(file);
        return true;
    }

    int draft(int n) {
        argument(n >= 0 && n <= 9);
        state(draft.length() < 12);
        draft.append((char) ('0' + n));
        return draft.length();
    }

    int write(int m, int file) {
        machineAndFile(m, file);
        state(draft.length() > 0);
        F x = f[m][file];
        if (!x.has) {
            x.folder = file % 4;
        }
        if (x.known) {
            happen("wrote a known file");
        }
        x.has = true;
        x.known = false;
        x.content = draft.toString();
        draft.setLength(0);
        edit(m, file);
        return x.content.length();
    }

    int move(int m, int file, int folder) {
        machineAndFile(m, file);
        index(folder >= 0 && folder <= 3);
        F x = f[m][file];
        state(x.has && !x.known);
        int before = x.folder;
        x.folder = folder;
        edit(m, file);
        return before;
    }

    void vanish(F x) {
        x.has = false;
        x.known = false;
        x.content = null;
        x.folder = NONE;
    }

    int erase(int m, int file) {
        machineAndFile(m, file);
        F x = f[m][file];
        state(x.has);
        int was = x.known ? 1 : 2;
        vanish(x);
        edit(m, file);
        return was;
    }

    int late(int m, int hours) {
        index(m >= 0 && m <= 2);
        argument(hours >= 0 && hours <= 50);
        int was = lateness[m];
        lateness[m] = hours;
        return was;
    }

    int lose(int m) {
        index(m >= 0 && m <= 2);
        int was = events.size();
        events.removeIf(e -> e.machine == m);
        return was - events.size();
    }

    int scan(int m) {
        index(m >= 0 && m <= 2);
        int n = 0;
        for (int file = 0; file < 16; file++) {
            if (isChangedAt(m, file) && note(m, file)) {
                n++;
            }
        }
        return n;
    }

    int room(int m, int r) {
        index(m >= 0 && m <= 2);
        argument(r >= 0 && r <= 200);
        int was = room[m];
        room[m] = r;
        return was;
    }

    int pin(int m, int file, boolean p) {
        machineAndFile(m, file);
        boolean was = f[m][file].pinned;
        f[m][file].pinned = p;
        return was ? 1 : 0;
    }

    int make(int file, int m, int folder, String content) {
        V v = new V();
        v.file = file;
        v.time = time;
        v.machine = m;
        v.folder = content == null ? NONE : folder;
        v.content = content;
        versions.add(v);
        entries.add(versions.size() - 1);
        return versions.size() - 1;
    }

    void asLatest(int m, int file) {
        F x = f[m][file];
        int n = latestNumber(file);
        x.seen = n;
        vanish(x);
        if (n != NONE && versions.get(n).content != null) {
            x.has = true;
            x.known = true;
            x.folder = versions.get(n).folder;
        }
    }

    int upload(int m, int allowance) {
        index(m >= 0 && m <= 2);
        argument(allowance >= 0 && allowance <= 100);
        state(versions.size() <= 100);
        int was = versions.size();
        int left = allowance;
        while (!notes.get(m).isEmpty()) {
            int file = notes.get(m).get(0);
            if (!isChangedAt(m, file)) {
                happen("noted, but not changed");
                notes.get(m).remove(0);
                continue;
            }
            boolean isMissing = false;
            for (String p : pieces(f[m][file].content)) {
                if (packOf.containsKey(p)) {
                    happen(damaged.contains(p) ? "damaged, had all the same" : "piece shared");
                    continue;
                }
                if (left == 0) {
                    isMissing = true;
                    break;
                }
                left--;
                uploadPiece(p);
            }
            if (isMissing) {
                happen("stopped for want of pieces");
                break;
            }
            look(m, file);
            notes.get(m).remove(0);
        }
        return versions.size() - was;
    }

    void uploadPiece(String p) {
        int inLast = 0;
        for (int pack : packOf.values()) {
            if (pack == packs - 1) {
                inLast++;
            }
        }
        if (packs == 0 || inLast >= 5) {
            packs++;
        }
        packOf.put(p, packs - 1);
        uploadedPieces++;
    }

    boolean mayAcknowledge(int m, int file) {
        F x = f[m][file];
        int holder = lockHolder(file);
        if (holder != NONE && holder != m) {
            happen("locked by another");
            return false;
        }
        if (!isInHouse(file)) {
            return rightNow(x.folder, m) == 2;
        }
        V l = latest(file);
        if (rightNow(l.folder, m) != 2) {
            return false;
        }
        return !x.has || x.folder == l.folder || rightNow(x.folder, m) == 2;
    }

    void look(int m, int file) {
        F x = f[m][file];
        int n = latestNumber(file);
        V l = latest(file);
        boolean may = mayAcknowledge(m, file);
        if (may && n == x.seen) {
            happen(x.has ? "acknowledged" : "deletion acknowledged");
            x.seen = make(file, m, x.folder, x.content);
            return;
        }
        boolean bothGone = !x.has && l != null && l.content == null;
        boolean bothSame = x.has && l != null && l.content != null && l.content.equals(x.content)
                && l.folder == x.folder;
        if (bothGone || bothSame) {
            happen(bothGone ? "same deletion seen" : "same content seen");
            x.seen = n;
            return;
        }
        conflicts++;
        if (!x.has) {
            happen("erasing forgotten");
            asLatest(m, file);
        } else if (l != null && l.content == null && may) {
            happen("acknowledged over a deletion");
            x.seen = make(file, m, x.folder, x.content);
        } else {
            both(m, file);
        }
    }

    void both(int m, int file) {
        F x = f[m][file];
        int free = NONE;
        for (int k = 15; k >= 0; k--) {
            if (latestNumber(k) == NONE && !f[0][k].has && !f[1][k].has && !f[2][k].has) {
                free = k;
            }
        }
        if (free == NONE || rightNow(x.folder, m) != 2) {
            happen(free == NONE ? "refused, no file free" : "refused, no right");
            refused++;
            return;
        }
        F y = f[m][free];
        y.has = true;
        y.known = false;
        y.content = x.content;
        y.folder = x.folder;
        y.seen = make(free, m, x.folder, x.content);
        asLatest(m, file);
        happen(x.has ? "both kept" : "kept as another, itself not there");
    }

    int pull(int m) {
        index(m >= 0 && m <= 2);
        int others = 0;
        for (int file = 0; file < 16; file++) {
            V l = latest(file);
            F x = f[m][file];
            if (l == null || isChangedAt(m, file)) {
                continue;
            }
            if (l.content != null && rightNow(l.folder, m) < 1
                    || l.content == null && x.has && rightNow(x.folder, m) < 1) {
                happen("pull without a right");
                continue;
            }
            String had = x.has ? versions.get(x.seen).content : null;
            int hadIn = x.folder;
            boolean wasThere = x.has && !x.known;
            asLatest(m, file);
            boolean sameContent = had == null ? l.content == null : had.equals(l.content);
            if (wasThere && l.content != null && sameContent) {
                x.known = false;
                x.content = had;
            }
            if (!sameContent || hadIn != x.folder) {
                others++;
                happen(sameContent ? "pulled a folder" : l.content == null ? "pulled a deletion" : "pulled");
            }
        }
        return others;
    }

    int takenAt(int m) {
        int sum = 0;
        for (F x : f[m]) {
            sum += x.content == null ? 0 : x.content.length();
        }
        return sum;
    }

    int open(int m, int file) {
        machineAndFile(m, file);
        F x = f[m][file];
        state(x.has);
        if (x.known) {
            String content = versions.get(x.seen).content;
            state(rightNow(x.folder, m) >= 1);
            for (String p : pieces(content)) {
                if (!packOf.containsKey(p)) {
                    happen("a piece is missing");
                }
                state(packOf.containsKey(p) && !damaged.contains(p));
            }
            List<Integer> away = new ArrayList<>();
            for (int k = 0; k < 16; k++) {
                F y = f[m][k];
                if (y.has && !y.known && !isChangedAt(m, k) && !y.pinned) {
                    away.add(k);
                }
            }
            away.sort(Comparator.comparingInt(k -> f[m][k].openedAs));
            int taken = takenAt(m);
            int put = 0;
            while (taken + content.length() > room[m] && put < away.size()) {
                taken -= f[m][away.get(put)].content.length();
                put++;
            }
            if (taken + content.length() > room[m]) {
                happen("no room");
            }
            state(taken + content.length() <= room[m]);
            for (int k : away.subList(0, put)) {
                f[m][k].known = true;
                f[m][k].content = null;
                happen("put away");
            }
            x.known = false;
            x.content = content;
        }
        opening++;
        x.openedAs = opening;
        return x.content.length();
    }

    int lock(int m, int file, int hours) {
        machineAndFile(m, file);
        argument(hours >= 1 && hours <= 48);
        state(lockHolder(file) == NONE || lockHolder(file) == m);
        locks.put(file, new int[] {m, time + hours});
        return time + hours;
    }

    int breakLock(int file) {
        index(file >= 0 && file <= 15);
        int was = lockHolder(file);
        state(was != NONE);
        locks.remove(file);
        return was;
    }

    int share(int folder, int m, int right, int hours) {
        index(folder >= 0 && folder <= 3 && m >= 0 && m <= 2);
        argument(right >= 0 && right <= 2 && hours >= 1 && hours <= 2000);
        shares.put(folder * 10 + m, new int[] {right, time + hours});
        return 0;
    }

    int hold(int file, int from, int to) {
        index(file >= 0 && file <= 15);
        argument(from >= 0 && from <= 2000 && to >= from && to <= 2000);
        state(holds.size() < 10);
        holds.add(new int[] {file, from, to});
        return holds.size();
    }

    int release() {
        int was = holds.size();
        holds.clear();
        return was;
    }

    boolean isHeld(V v) {
        return holds.stream().anyMatch(h -> h[0] == v.file && h[1] <= v.time && v.time <= h[2]);
    }

    int thin() {
        Set<Integer> drop = new LinkedHashSet<>();
        for (int file = 0; file < 16; file++) {
            Map<Integer, Integer> lastOfSpan = new HashMap<>();
            for (int n = 0; n < versions.size(); n++) {
                if (versions.get(n).file == file) {
                    lastOfSpan.put(versions.get(n).time / 24, n);
                }
            }
            for (int n = 0; n < versions.size(); n++) {
                V v = versions.get(n);
                if (v.file != file || !v.kept) {
                    continue;
                }
                int age = time - v.time;
                if (isHeld(v)) {
                    happen("held");
                    continue;
                }
                if (age >= 24 && lastOfSpan.get(v.time / 24) != n) {
                    drop.add(n);
                    happen("thinned in a span");
                }
                if (age >= 240 && n != latestNumber(file)) {
                    drop.add(n);
                    happen("thinned for age");
                }
            }
        }
        for (int n : drop) {
            versions.get(n).kept = false;
            if (entries.remove(Integer.valueOf(n))) {
                happen("an entry dropped");
            }
        }
        Set<String> stay = new LinkedHashSet<>();
        for (V v : versions) {
            if (v.kept) {
                stay.addAll(pieces(v.content));
            }
        }
        for (int m = 0; m < 3; m++) {
            for (int file : notes.get(m)) {
                for (String p : pieces(f[m][file].content)) {
                    if (packOf.containsKey(p) && stay.add(p)) {
                        happen("a piece stays for a noted file");
                    }
                }
            }
        }
        int was = packOf.size();
        packOf.keySet().retainAll(stay);
        damaged.retainAll(stay);
        second.retainAll(stay);
        if (packOf.size() < was) {
            happen("pieces dropped");
        }
        return drop.size();
    }

    int asOfNumber(int file, int t) {
        for (int n = versions.size() - 1; n >= 0; n--) {
            V v = versions.get(n);
            if (v.file == file && v.kept && v.time <= t) {
                return n;
            }
        }
        return NONE;
    }

    int restoreIt(int file, int t) {
        int n = asOfNumber(file, t);
        if (n == NONE) {
            return NONE;
        }
        V v = versions.get(n);
        V l = latest(file);
        boolean same = v.content == null ? l.content == null
                : v.content.equals(l.content) && v.folder == l.folder;
        if (same) {
            return NONE;
        }
        happen(v.content == null ? "restored a deletion" : "restored");
        return make(file, NONE, v.folder, v.content);
    }

    int restore(int file, int t) {
        index(file >= 0 && file <= 15);
        argument(t >= 0 && t <= time);
        state(versions.size() <= 100);
        return restoreIt(file, t);
    }

    int restoreFolder(int folder, int t) {
        index(folder >= 0 && folder <= 3);
        argument(t >= 0 && t <= time);
        state(versions.size() <= 100);
        int made = 0;
        for (int file = 0; file < 16; file++) {
            int n = asOfNumber(file, t);
            boolean then = n != NONE && versions.get(n).content != null && versions.get(n).folder == folder;
            boolean isNow = isInHouse(file) && latest(file).folder == folder;
            if ((then || isNow) && restoreIt(file, t) != NONE) {
                made++;
                happen(then && isNow ? "restored in the folder" : then ? "restored into" : "restored out of");
            }
        }
        return made;
    }

    int damage(int pack) {
        index(pack >= 0 && pack < packs);
        int n = 0;
        for (Map.Entry<String, Integer> e : packOf.entrySet()) {
            if (e.getValue() == pack && damaged.add(e.getKey())) {
                n++;
            }
        }
        return n;
    }

    int scrub() {
        int was = damaged.size();
        damaged.removeAll(second);
        if (damaged.size() < was) {
            happen("mended");
        }
        return was - damaged.size();
    }

    int follow(int n) {
        argument(n >= 1 && n <= 120);
        int got = 0;
        while (got < n && !entries.isEmpty()) {
            V v = versions.get(entries.remove(0));
            got++;
            for (String p : pieces(v.content)) {
                if (!damaged.contains(p)) {
                    second.add(p);
                } else {
                    happen("followed a damaged piece");
                }
            }
        }
        return got;
    }

    int pass(int hours) {
        argument(hours >= 1 && hours <= 100);
        state(time + hours <= 2000);
        for (int h = 0; h < hours; h++) {
            time++;
            for (Event e : events) {
                if (e.due == time) {
                    note(e.machine, e.file);
                }
            }
            events.removeIf(e -> e.due == time);
        }
        return time;
    }

    int stateOf(int m, int file) {
        machineAndFile(m, file);
        return !f[m][file].has ? 0 : f[m][file].known ? 1 : 2;
    }

    int folderOf(int m, int file) {
        machineAndFile(m, file);
        return f[m][file].has ? f[m][file].folder : NONE;
    }

    int numberAt(int m, int file, int place) {
        machineAndFile(m, file);
        index(place >= 0);
        String c = f[m][file].content;
        return c == null || place >= c.length() ? NONE : c.charAt(place) - '0';
    }

    int isChanged(int m, int file) {
        machineAndFile(m, file);
        return isChangedAt(m, file) ? 1 : 0;
    }

    int seen(int m, int file) {
        machineAndFile(m, file);
        return f[m][file].seen;
    }

    int noted(int m) {
        index(m >= 0 && m <= 2);
        return notes.get(m).size();
    }

    int taken(int m) {
        index(m >= 0 && m <= 2);
        return takenAt(m);
    }

    int version(int n, int what) {
        index(n >= 0 && n < versions.size());
        argument(what >= 0 && what <= 5);
        V v = versions.get(n);
        int length = v.content == null ? 0 : v.content.length();
        int[] told = {v.file, v.time, v.machine, v.folder, length, v.kept ? 1 : 0};
        return told[what];
    }

    int asOf(int file, int t) {
        index(file >= 0 && file <= 15);
        argument(t >= 0 && t <= time);
        return asOfNumber(file, t);
    }

    int lockOf(int file) {
        index(file >= 0 && file <= 15);
        return lockHolder(file);
    }

    int right(int folder, int m) {
        index(folder >= 0 && folder <= 3 && m >= 0 && m <= 2);
        return rightNow(folder, m);
    }

    int count(int what) {
        argument(what >= 0 && what <= 7);
        int[] told = {packOf.size(), packs, damaged.size(), second.size(), entries.size(), conflicts, refused,
            uploadedPieces};
        return told[what];
    }

    int lost() {
        int n = 0;
        for (V v : versions) {
            boolean isLost = false;
            for (String p : pieces(v.content)) {
                boolean isWhole = packOf.containsKey(p) && !damaged.contains(p);
                isLost |= !isWhole && !second.contains(p);
            }
            if (v.kept && isLost) {
                n++;
                happen("lost");
            }
        }
        return n;
    }
}
