/**
 * A house that keeps files for machines which change them offline. What each method must do stands in
 * shared/DOC.md; the words used here (piece, pack, noted, seen, held, entry) are the words of that document.
 */
public final class KeeperHouse {
    public static final int NONE = -1;
    public static final int NO_RIGHT = 0, READ = 1, WRITE = 2;
    public static final int ABSENT = 0, KNOWN = 1, THERE = 2;

    private static final int FILES = 16;
    private static final int FOLDERS = 4;
    private static final int MACHINES = 3;
    private static final int LONGEST = 12;
    private static final int LAST_HOUR = 2000;
    private static final int MOST_VERSIONS = 120;
    private static final int MOST_VERSIONS_BEFORE = 100;
    private static final int MOST_HOLDS = 10;
    private static final int PACK_SIZE = 5;
    private static final int YOUNG_HOURS = 24;
    private static final int SPAN_HOURS = 24;
    private static final int OLD_HOURS = 240;
    /** An object is used for 512 calls; each edit is a call, and each number of a piece was drafted by one. */
    private static final int MOST_CALLS = 512;

    private final int[] drafted = new int[LONGEST];
    private final Machine[] machines = new Machine[MACHINES];
    private final Events events = new Events();
    private final Log log;
    private final Store store = new Store();
    private final Locks locks = new Locks();
    private final Shares shares = new Shares();
    private final Holds holds = new Holds();
    private int draftedCount = 0;
    private int now = 0;
    private int opens = 0;
    private int conflicts = 0;
    private int refusals = 0;
    /** The second house has got, or passed by as dropped, all versions below this number. */
    private int followed = 0;

    public KeeperHouse() {
        Content empty = new Content(new int[0], 0);
        log = new Log(empty);
        for (int machine = 0; machine < MACHINES; machine++) {
            machines[machine] = new Machine(empty);
        }
    }

    // ---- machines, offline

    public int draft(int number) throws IllegalArgumentException, IllegalStateException {
        needRange(number, 0, 9);
        if (draftedCount >= LONGEST) {
            throw new IllegalStateException("the draft is full");
        }
        drafted[draftedCount] = number;
        draftedCount++;
        return draftedCount;
    }

    public int write(int machine, int file) throws IndexOutOfBoundsException, IllegalStateException {
        needIndex(machine, MACHINES);
        needIndex(file, FILES);
        if (draftedCount == 0) {
            throw new IllegalStateException("nothing is drafted");
        }
        Copy copy = machines[machine].copies[file];
        int folder = copy.state == ABSENT ? file % FOLDERS : copy.folder;
        int length = draftedCount;
        copy.put(folder, new Content(drafted, length));
        draftedCount = 0;
        sendEvent(machine, file);
        return length;
    }

    public int move(int machine, int file, int folder) throws IndexOutOfBoundsException, IllegalStateException {
        needIndex(machine, MACHINES);
        needIndex(file, FILES);
        needIndex(folder, FOLDERS);
        Copy copy = machines[machine].copies[file];
        if (copy.state != THERE) {
            throw new IllegalStateException("the file is not there with its content");
        }
        int before = copy.folder;
        copy.folder = folder;
        sendEvent(machine, file);
        return before;
    }

    public int erase(int machine, int file) throws IndexOutOfBoundsException, IllegalStateException {
        needIndex(machine, MACHINES);
        needIndex(file, FILES);
        Copy copy = machines[machine].copies[file];
        int before = copy.state;
        if (before == ABSENT) {
            throw new IllegalStateException("the file is not there");
        }
        copy.clear();
        sendEvent(machine, file);
        return before;
    }

    public int late(int machine, int hours) throws IndexOutOfBoundsException, IllegalArgumentException {
        needIndex(machine, MACHINES);
        needRange(hours, 0, 50);
        int before = machines[machine].lateness;
        machines[machine].lateness = hours;
        return before;
    }

    public int lose(int machine) throws IndexOutOfBoundsException {
        needIndex(machine, MACHINES);
        return events.dropOf(machine);
    }

    public int scan(int machine) throws IndexOutOfBoundsException {
        needIndex(machine, MACHINES);
        Machine scanned = machines[machine];
        int before = scanned.waiting;
        for (int file = 0; file < FILES; file++) {
            if (isEdited(scanned.copies[file])) {
                scanned.note(file);
            }
        }
        return scanned.waiting - before;
    }

    public int room(int machine, int room) throws IndexOutOfBoundsException, IllegalArgumentException {
        needIndex(machine, MACHINES);
        needRange(room, 0, 200);
        int before = machines[machine].space;
        machines[machine].space = room;
        return before;
    }

    public boolean pin(int machine, int file, boolean isPinned) throws IndexOutOfBoundsException {
        needIndex(machine, MACHINES);
        needIndex(file, FILES);
        Copy copy = machines[machine].copies[file];
        boolean before = copy.isPinned;
        copy.isPinned = isPinned;
        return before;
    }

    // ---- machines and the house

    public int upload(int machine, int pieces)
            throws IndexOutOfBoundsException, IllegalArgumentException, IllegalStateException {
        needIndex(machine, MACHINES);
        needRange(pieces, 0, 100);
        needFewVersions();
        Machine uploader = machines[machine];
        int before = log.made;
        int left = pieces;
        for (int turn = 0; turn < FILES && uploader.waiting > 0; turn++) {
            int file = uploader.line[0];
            Copy copy = uploader.copies[file];
            if (isEdited(copy)) {
                left -= store.addMissing(copy.content, left);
                if (!store.hasAll(copy.content)) {
                    break;
                }
                lookAt(machine, file);
            }
            uploader.dropFirst();
        }
        return log.made - before;
    }

    public int pull(int machine) throws IndexOutOfBoundsException {
        needIndex(machine, MACHINES);
        int others = 0;
        for (int file = 0; file < FILES; file++) {
            Copy copy = machines[machine].copies[file];
            int latest = log.latestOf(file);
            if (latest != NONE && !isEdited(copy) && mayFollow(machine, copy, log.at(latest))) {
                others += copy.catchUp(latest, log.at(latest)) ? 1 : 0;
            }
        }
        return others;
    }

    public int open(int machine, int file) throws IndexOutOfBoundsException, IllegalStateException {
        needIndex(machine, MACHINES);
        needIndex(file, FILES);
        Copy copy = machines[machine].copies[file];
        if (copy.state == ABSENT || copy.state == KNOWN && !canFetch(machine, copy)) {
            throw new IllegalStateException("the file can't be opened");
        }
        if (copy.state == KNOWN) {
            makeRoom(machines[machine], copy.content.length);
            copy.state = THERE;
        }
        opens++;
        copy.opened = opens;
        return copy.content.length;
    }

    public int lock(int machine, int file, int hours)
            throws IndexOutOfBoundsException, IllegalArgumentException, IllegalStateException {
        needIndex(machine, MACHINES);
        needIndex(file, FILES);
        needRange(hours, 1, 48);
        if (isLockedByOther(machine, file)) {
            throw new IllegalStateException("another one has the lock");
        }
        locks.take(file, machine, now + hours);
        return now + hours;
    }

    public int breakLock(int file) throws IndexOutOfBoundsException, IllegalStateException {
        needIndex(file, FILES);
        int holder = locks.holderAt(file, now);
        if (holder == NONE) {
            throw new IllegalStateException("nobody has the lock");
        }
        locks.take(file, NONE, now);
        return holder;
    }

    public void share(int folder, int machine, int right, int hours)
            throws IndexOutOfBoundsException, IllegalArgumentException {
        needIndex(folder, FOLDERS);
        needIndex(machine, MACHINES);
        needRange(right, NO_RIGHT, WRITE);
        needRange(hours, 1, LAST_HOUR);
        shares.set(folder, machine, right, now + hours);
    }

    // ---- the house

    public int hold(int file, int from, int to)
            throws IndexOutOfBoundsException, IllegalArgumentException, IllegalStateException {
        needIndex(file, FILES);
        needRange(from, 0, LAST_HOUR);
        needRange(to, from, LAST_HOUR);
        if (holds.size >= MOST_HOLDS) {
            throw new IllegalStateException("there are ten holds");
        }
        holds.add(file, from, to);
        return holds.size;
    }

    public int release() {
        int before = holds.size;
        holds.size = 0;
        return before;
    }

    public int thin() {
        int dropped = 0;
        for (int number = 0; number < log.made; number++) {
            Version version = log.at(number);
            if (version.isKept && isToBeDropped(number, version)) {
                version.isKept = false;
                dropped++;
            }
        }
        dropPieces();
        return dropped;
    }

    public int restore(int file, int time)
            throws IndexOutOfBoundsException, IllegalArgumentException, IllegalStateException {
        needIndex(file, FILES);
        needRange(time, 0, now);
        needFewVersions();
        return makeAsOf(file, time);
    }

    public int restoreFolder(int folder, int time)
            throws IndexOutOfBoundsException, IllegalArgumentException, IllegalStateException {
        needIndex(folder, FOLDERS);
        needRange(time, 0, now);
        needFewVersions();
        int before = log.made;
        for (int file = 0; file < FILES; file++) {
            int folderThen = log.at(log.lastUpTo(file, time)).folder;
            int folderNow = log.at(log.latestOf(file)).folder;
            if (folderThen == folder || folderNow == folder) {
                makeAsOf(file, time);
            }
        }
        return log.made - before;
    }

    public int damage(int pack) throws IndexOutOfBoundsException {
        needIndex(pack, store.packs);
        return store.damagePack(pack);
    }

    public int scrub() {
        return store.mend();
    }

    public int follow(int entries) throws IllegalArgumentException {
        needRange(entries, 1, MOST_VERSIONS);
        int got = 0;
        for (; followed < log.made && got < entries; followed++) {
            Version version = log.at(followed);
            if (version.isKept) {
                store.copyToSecond(version.content);
                got++;
            }
        }
        return got;
    }

    public int pass(int hours) throws IllegalArgumentException, IllegalStateException {
        needRange(hours, 1, 100);
        if (now + hours > LAST_HOUR) {
            throw new IllegalStateException("time ends with the hour 2000");
        }
        now += hours;
        int come = events.comeBy(now);
        for (int event = 0; event < come; event++) {
            machines[events.machine[event]].note(events.file[event]);
        }
        events.dropFirst(come);
        return now;
    }

    // ---- what is asked of machines

    public int time() {
        return now;
    }

    public int stateOf(int machine, int file) throws IndexOutOfBoundsException {
        needIndex(machine, MACHINES);
        needIndex(file, FILES);
        return machines[machine].copies[file].state;
    }

    public int folderOf(int machine, int file) throws IndexOutOfBoundsException {
        needIndex(machine, MACHINES);
        needIndex(file, FILES);
        return machines[machine].copies[file].folder;
    }

    public int numberAt(int machine, int file, int place) throws IndexOutOfBoundsException {
        needIndex(machine, MACHINES);
        needIndex(file, FILES);
        if (place < 0) {
            throw new IndexOutOfBoundsException("a place is 0 or more");
        }
        Copy copy = machines[machine].copies[file];
        return copy.state == THERE ? copy.content.numberIn(place) : NONE;
    }

    public boolean isChanged(int machine, int file) throws IndexOutOfBoundsException {
        needIndex(machine, MACHINES);
        needIndex(file, FILES);
        return isEdited(machines[machine].copies[file]);
    }

    public int seen(int machine, int file) throws IndexOutOfBoundsException {
        needIndex(machine, MACHINES);
        needIndex(file, FILES);
        return machines[machine].copies[file].seenVersion;
    }

    public int noted(int machine) throws IndexOutOfBoundsException {
        needIndex(machine, MACHINES);
        return machines[machine].waiting;
    }

    public int taken(int machine) throws IndexOutOfBoundsException {
        needIndex(machine, MACHINES);
        return machines[machine].takenRoom();
    }

    // ---- what is asked of the house

    public int versions() {
        return log.made;
    }

    public int version(int version, int what) throws IndexOutOfBoundsException, IllegalArgumentException {
        needIndex(version, log.made);
        needRange(what, 0, 5);
        Version told = log.at(version);
        switch (what) {
            case 0: return told.file;
            case 1: return told.hour;
            case 2: return told.machine;
            case 3: return told.folder;
            case 4: return told.content.length;
            default: return told.isKept ? 1 : 0;
        }
    }

    public int asOf(int file, int time) throws IndexOutOfBoundsException, IllegalArgumentException {
        needIndex(file, FILES);
        needRange(time, 0, now);
        return log.lastUpTo(file, time);
    }

    public int lockOf(int file) throws IndexOutOfBoundsException {
        needIndex(file, FILES);
        return locks.holderAt(file, now);
    }

    public int right(int folder, int machine) throws IndexOutOfBoundsException {
        needIndex(folder, FOLDERS);
        needIndex(machine, MACHINES);
        return shares.rightAt(folder, machine, now);
    }

    public int count(int what) throws IllegalArgumentException {
        needRange(what, 0, 7);
        switch (what) {
            case 0: return store.size;
            case 1: return store.packs;
            case 2: return store.countDamaged();
            case 3: return store.countSecond();
            case 4: return log.countKeptFrom(followed);
            case 5: return conflicts;
            case 6: return refusals;
            default: return store.uploaded;
        }
    }

    public int lost() {
        int lostVersions = 0;
        for (int number = 0; number < log.made; number++) {
            Version version = log.at(number);
            if (version.isKept && !store.isWholeSomewhere(version.content)) {
                lostVersions++;
            }
        }
        return lostVersions;
    }

    // ---- what arguments and states must be

    private static void needIndex(int index, int size) {
        if (index < 0 || index >= size) {
            throw new IndexOutOfBoundsException("there is no such one");
        }
    }

    private static void needRange(int value, int least, int most) {
        if (value < least || value > most) {
            throw new IllegalArgumentException("an argument is out of its range");
        }
    }

    private void needFewVersions() {
        if (log.made > MOST_VERSIONS_BEFORE) {
            throw new IllegalStateException("there are more than 100 versions");
        }
    }

    // ---- edits and the room at machines

    private void sendEvent(int machine, int file) {
        int lateness = machines[machine].lateness;
        if (lateness == 0) {
            machines[machine].note(file);
        } else {
            events.add(machine, file, now + lateness);
        }
    }

    private boolean isEdited(Copy copy) {
        return !log.at(copy.seenVersion).isAs(copy.folder, copy.content);
    }

    private boolean canPutAway(Copy copy) {
        return copy.state == THERE && !copy.isPinned && !isEdited(copy);
    }

    private boolean canFetch(int machine, Copy copy) {
        return shares.rightAt(copy.folder, machine, now) >= READ
                && store.hasAllWhole(copy.content)
                && canHaveRoom(machines[machine], copy.content.length);
    }

    private boolean canHaveRoom(Machine machine, int length) {
        int needed = machine.takenRoom() + length;
        for (int file = 0; file < FILES; file++) {
            Copy copy = machine.copies[file];
            needed -= canPutAway(copy) ? copy.content.length : 0;
        }
        return needed <= machine.space;
    }

    private void makeRoom(Machine machine, int length) {
        for (int turn = 0; turn < FILES && machine.takenRoom() + length > machine.space; turn++) {
            int file = openedLongestAgo(machine);
            if (file == NONE) {
                break;
            }
            machine.copies[file].state = KNOWN;
        }
    }

    private int openedLongestAgo(Machine machine) {
        int found = NONE;
        int foundOpened = 0;
        for (int file = 0; file < FILES; file++) {
            Copy copy = machine.copies[file];
            if (canPutAway(copy) && (found == NONE || copy.opened < foundOpened)) {
                found = file;
                foundOpened = copy.opened;
            }
        }
        return found;
    }

    // ---- uploading and pulling

    private boolean mayWrite(int machine, int folder) {
        return shares.rightAt(folder, machine, now) == WRITE;
    }

    private boolean isLockedByOther(int machine, int file) {
        int holder = locks.holderAt(file, now);
        return holder != NONE && holder != machine;
    }

    private boolean mayAcknowledge(int machine, int file) {
        int folder = machines[machine].copies[file].folder;
        int houseFolder = log.at(log.latestOf(file)).folder;
        boolean mayLeave = houseFolder == NONE || mayWrite(machine, houseFolder);
        boolean mayEnter = folder == NONE || folder == houseFolder || mayWrite(machine, folder);
        return mayLeave && mayEnter && !isLockedByOther(machine, file);
    }

    private boolean mayFollow(int machine, Copy copy, Version latest) {
        int folder = latest.isDeletion() ? copy.folder : latest.folder;
        return folder == NONE || shares.rightAt(folder, machine, now) >= READ;
    }

    private void lookAt(int machine, int file) {
        Copy copy = machines[machine].copies[file];
        int latest = log.latestOf(file);
        boolean may = mayAcknowledge(machine, file);
        if (may && latest == copy.seenVersion) {
            acknowledge(machine, file);
        } else if (log.at(latest).isAs(copy.folder, copy.content)) {
            copy.seenVersion = latest;
        } else {
            conflicts++;
            settle(machine, file, may);
        }
    }

    private void settle(int machine, int file, boolean may) {
        Copy copy = machines[machine].copies[file];
        int latest = log.latestOf(file);
        if (copy.state == ABSENT) {
            copy.fallBack(latest, log.at(latest));
        } else if (may && log.at(latest).isDeletion()) {
            acknowledge(machine, file);
        } else {
            keepBoth(machine, file);
        }
    }

    private void keepBoth(int machine, int file) {
        Copy copy = machines[machine].copies[file];
        int spare = spareFile();
        if (spare == NONE || !mayWrite(machine, copy.folder)) {
            refusals++;
            return;
        }
        machines[machine].copies[spare].put(copy.folder, copy.content);
        acknowledge(machine, spare);
        copy.fallBack(log.latestOf(file), log.at(log.latestOf(file)));
    }

    private int spareFile() {
        for (int file = 0; file < FILES; file++) {
            if (log.latestOf(file) == NONE && isAtNoMachine(file)) {
                return file;
            }
        }
        return NONE;
    }

    private boolean isAtNoMachine(int file) {
        for (int machine = 0; machine < MACHINES; machine++) {
            if (machines[machine].copies[file].state != ABSENT) {
                return false;
            }
        }
        return true;
    }

    private void acknowledge(int machine, int file) {
        Copy copy = machines[machine].copies[file];
        copy.seenVersion = log.add(new Version(file, now, machine, copy.folder, copy.content));
    }

    // ---- restoring and thinning

    private int makeAsOf(int file, int time) {
        int number = log.lastUpTo(file, time);
        Version then = log.at(number);
        if (number == NONE || log.at(log.latestOf(file)).isAs(then.folder, then.content)) {
            return NONE;
        }
        return log.add(new Version(file, now, NONE, then.folder, then.content));
    }

    private boolean isToBeDropped(int number, Version version) {
        int age = now - version.hour;
        if (age < YOUNG_HOURS || holds.isHeld(version.file, version.hour)) {
            return false;
        }
        if (age >= OLD_HOURS) {
            return number != log.latestOf(version.file);
        }
        return number != log.lastOfSpan(version.file, version.hour / SPAN_HOURS);
    }

    private void dropPieces() {
        store.needNothing();
        for (int number = 0; number < log.made; number++) {
            Version version = log.at(number);
            if (version.isKept) {
                store.need(version.content);
            }
        }
        for (int machine = 0; machine < MACHINES; machine++) {
            needNotedContents(machines[machine]);
        }
        store.dropUnneeded();
    }

    private void needNotedContents(Machine machine) {
        for (int place = 0; place < machine.waiting; place++) {
            Copy copy = machine.copies[machine.line[place]];
            if (copy.state == THERE) {
                store.need(copy.content);
            }
        }
    }

    /** A row of numbers, which never changes; the empty one stands for what is not there. */
    private static final class Content {
        /** A piece is a number too: its own numbers behind a 1, so that 0 1 and 1 are two. */
        private static final int NO_NUMBERS = 1;
        private static final int FOUR_NUMBERS = 10_000;

        final int length;
        final int pieceCount;
        private final int[] numbers = new int[LONGEST];
        private final int[] pieces = new int[LONGEST];

        Content(int[] row, int rowLength) {
            int end = Math.min(rowLength, Math.min(row.length, LONGEST));
            int cut = 0;
            int piece = NO_NUMBERS;
            for (int place = 0; place < end; place++) {
                numbers[place] = row[place];
                piece = piece * 10 + row[place];
                if (row[place] == 0 || piece >= FOUR_NUMBERS || place == end - 1) {
                    pieces[cut] = piece;
                    cut++;
                    piece = NO_NUMBERS;
                }
            }
            length = Math.max(end, 0);
            pieceCount = cut;
        }

        int numberIn(int place) {
            return place >= 0 && place < length ? numbers[place] : NONE;
        }

        int pieceIn(int place) {
            return place >= 0 && place < pieceCount ? pieces[place] : NONE;
        }

        boolean isSame(Content other) {
            if (length != other.length) {
                return false;
            }
            for (int place = 0; place < length; place++) {
                if (numbers[place] != other.numbers[place]) {
                    return false;
                }
            }
            return true;
        }
    }

    private static final class Version {
        final int file;
        final int hour;
        final int machine;
        final int folder;
        final Content content;
        boolean isKept = true;

        Version(int file, int hour, int machine, int folder, Content content) {
            this.file = file;
            this.hour = hour;
            this.machine = machine;
            this.folder = folder;
            this.content = content;
        }

        boolean isDeletion() {
            return folder == NONE;
        }

        boolean isAs(int otherFolder, Content otherContent) {
            return folder == otherFolder && content.isSame(otherContent);
        }
    }

    private static final class Log {
        int made = 0;
        private final int[] latest = new int[FILES];
        private final Version[] rows = new Version[MOST_VERSIONS];
        /** Stands where there is no version: what has seen none is as this one, if it is not there. */
        private final Version nothing;

        Log(Content empty) {
            nothing = new Version(NONE, 0, NONE, NONE, empty);
            for (int number = 0; number < MOST_VERSIONS; number++) {
                rows[number] = nothing;
            }
            for (int file = 0; file < FILES; file++) {
                latest[file] = NONE;
            }
        }

        Version at(int number) {
            return number >= 0 && number < made ? rows[number] : nothing;
        }

        int add(Version version) {
            if (made >= MOST_VERSIONS || version.file < 0 || version.file >= FILES) {
                return NONE;
            }
            rows[made] = version;
            latest[version.file] = made;
            made++;
            return made - 1;
        }

        /** Thinning never drops the latest version of a file, so it needs no look at what is kept. */
        int latestOf(int file) {
            return file >= 0 && file < FILES ? latest[file] : NONE;
        }

        int lastUpTo(int file, int hour) {
            for (int number = made - 1; number >= 0; number--) {
                Version version = rows[number];
                if (version.file == file && version.isKept && version.hour <= hour) {
                    return number;
                }
            }
            return NONE;
        }

        int lastOfSpan(int file, int span) {
            for (int number = made - 1; number >= 0; number--) {
                Version version = rows[number];
                if (version.file == file && version.isKept && version.hour / SPAN_HOURS == span) {
                    return number;
                }
            }
            return NONE;
        }

        int countKeptFrom(int first) {
            int kept = 0;
            for (int number = Math.max(first, 0); number < made; number++) {
                kept += rows[number].isKept ? 1 : 0;
            }
            return kept;
        }
    }

    /** A file as a machine has it: a known one bears the content that it would have if it were opened. */
    private static final class Copy {
        int state = ABSENT;
        int folder = NONE;
        Content content;
        int seenVersion = NONE;
        boolean isPinned = false;
        /** The number of the opening, 0 for a file that was never opened. */
        int opened = 0;
        private final Content empty;

        Copy(Content empty) {
            this.empty = empty;
            content = empty;
        }

        void put(int newFolder, Content newContent) {
            state = THERE;
            folder = newFolder;
            content = newContent;
        }

        void clear() {
            state = ABSENT;
            folder = NONE;
            content = empty;
        }

        /** Keeps nothing of its own: also a content that is the same is known only then. */
        void fallBack(int number, Version version) {
            state = version.isDeletion() ? ABSENT : KNOWN;
            folder = version.folder;
            content = version.content;
            seenVersion = number;
        }

        /** Keeps its content if that is the same; tells whether the file is another one than before. */
        boolean catchUp(int number, Version version) {
            boolean isOther = !version.isAs(folder, content);
            boolean isSameContent = content.isSame(version.content);
            int before = state;
            fallBack(number, version);
            if (isSameContent) {
                state = before;
            }
            return isOther;
        }
    }

    private static final class Machine {
        final Copy[] copies = new Copy[FILES];
        /** The files that are noted, the first one at 0. */
        final int[] line = new int[FILES];
        int waiting = 0;
        int lateness = 0;
        int space = 100;

        Machine(Content empty) {
            for (int file = 0; file < FILES; file++) {
                copies[file] = new Copy(empty);
            }
        }

        void note(int file) {
            for (int place = 0; place < waiting; place++) {
                if (line[place] == file) {
                    return;
                }
            }
            if (waiting < FILES) {
                line[waiting] = file;
                waiting++;
            }
        }

        void dropFirst() {
            if (waiting > 0) {
                System.arraycopy(line, 1, line, 0, waiting - 1);
                waiting--;
            }
        }

        int takenRoom() {
            int sum = 0;
            for (int file = 0; file < FILES; file++) {
                sum += copies[file].state == THERE ? copies[file].content.length : 0;
            }
            return sum;
        }
    }

    /** The events that have not come, in the order in which they will. */
    private static final class Events {
        final int[] machine = new int[MOST_CALLS];
        final int[] file = new int[MOST_CALLS];
        private final int[] due = new int[MOST_CALLS];
        private int size = 0;

        void add(int newMachine, int newFile, int newDue) {
            if (size >= MOST_CALLS) {
                return;
            }
            int place = size;
            for (; place > 0 && due[place - 1] > newDue; place--) {
                copyTo(place, place - 1);
            }
            machine[place] = newMachine;
            file[place] = newFile;
            due[place] = newDue;
            size++;
        }

        int comeBy(int hour) {
            int come = 0;
            while (come < size && due[come] <= hour) {
                come++;
            }
            return come;
        }

        void dropFirst(int gone) {
            for (int place = gone; place < size; place++) {
                copyTo(place - gone, place);
            }
            size -= gone;
        }

        int dropOf(int lostMachine) {
            int kept = 0;
            for (int place = 0; place < size; place++) {
                if (machine[place] != lostMachine) {
                    copyTo(kept, place);
                    kept++;
                }
            }
            int gone = size - kept;
            size = kept;
            return gone;
        }

        private void copyTo(int to, int from) {
            machine[to] = machine[from];
            file[to] = file[from];
            due[to] = due[from];
        }
    }

    /** The pieces of the house, in the order in which they came; the second house never has one besides. */
    private static final class Store {
        int size = 0;
        int packs = 0;
        int uploaded = 0;
        private final int[] piece = new int[MOST_CALLS];
        private final int[] pack = new int[MOST_CALLS];
        private final boolean[] isDamaged = new boolean[MOST_CALLS];
        private final boolean[] isInSecond = new boolean[MOST_CALLS];
        private final boolean[] isNeeded = new boolean[MOST_CALLS];

        private int find(int wanted) {
            for (int place = 0; place < size; place++) {
                if (piece[place] == wanted) {
                    return place;
                }
            }
            return NONE;
        }

        boolean hasAll(Content content) {
            for (int i = 0; i < content.pieceCount; i++) {
                if (find(content.pieceIn(i)) == NONE) {
                    return false;
                }
            }
            return true;
        }

        boolean hasAllWhole(Content content) {
            for (int i = 0; i < content.pieceCount; i++) {
                int place = find(content.pieceIn(i));
                if (place == NONE || isDamaged[place]) {
                    return false;
                }
            }
            return true;
        }

        boolean isWholeSomewhere(Content content) {
            for (int i = 0; i < content.pieceCount; i++) {
                int place = find(content.pieceIn(i));
                if (place == NONE || isDamaged[place] && !isInSecond[place]) {
                    return false;
                }
            }
            return true;
        }

        /** Adds pieces that are missing, the first ones first, and no more than these; returns how many. */
        int addMissing(Content content, int most) {
            int added = 0;
            for (int i = 0; i < content.pieceCount && added < most && size < MOST_CALLS; i++) {
                if (find(content.pieceIn(i)) == NONE) {
                    add(content.pieceIn(i));
                    added++;
                }
            }
            uploaded += added;
            return added;
        }

        private void add(int newPiece) {
            if (packs == 0 || countInPack(packs - 1) >= PACK_SIZE) {
                packs++;
            }
            piece[size] = newPiece;
            pack[size] = packs - 1;
            isDamaged[size] = false;
            isInSecond[size] = false;
            size++;
        }

        private int countInPack(int wanted) {
            int sum = 0;
            for (int place = 0; place < size; place++) {
                sum += pack[place] == wanted ? 1 : 0;
            }
            return sum;
        }

        int damagePack(int wanted) {
            int damaged = 0;
            for (int place = 0; place < size; place++) {
                if (pack[place] == wanted && !isDamaged[place]) {
                    isDamaged[place] = true;
                    damaged++;
                }
            }
            return damaged;
        }

        int mend() {
            int mended = 0;
            for (int place = 0; place < size; place++) {
                if (isDamaged[place] && isInSecond[place]) {
                    isDamaged[place] = false;
                    mended++;
                }
            }
            return mended;
        }

        void copyToSecond(Content content) {
            for (int i = 0; i < content.pieceCount; i++) {
                int place = find(content.pieceIn(i));
                if (place != NONE && !isDamaged[place]) {
                    isInSecond[place] = true;
                }
            }
        }

        void needNothing() {
            for (int place = 0; place < size; place++) {
                isNeeded[place] = false;
            }
        }

        void need(Content content) {
            for (int i = 0; i < content.pieceCount; i++) {
                int place = find(content.pieceIn(i));
                if (place != NONE) {
                    isNeeded[place] = true;
                }
            }
        }

        void dropUnneeded() {
            int kept = 0;
            for (int place = 0; place < size; place++) {
                if (isNeeded[place]) {
                    piece[kept] = piece[place];
                    pack[kept] = pack[place];
                    isDamaged[kept] = isDamaged[place];
                    isInSecond[kept] = isInSecond[place];
                    kept++;
                }
            }
            size = kept;
        }

        int countDamaged() {
            int sum = 0;
            for (int place = 0; place < size; place++) {
                sum += isDamaged[place] ? 1 : 0;
            }
            return sum;
        }

        int countSecond() {
            int sum = 0;
            for (int place = 0; place < size; place++) {
                sum += isInSecond[place] ? 1 : 0;
            }
            return sum;
        }
    }

    private static final class Locks {
        private final int[] holder = new int[FILES];
        private final int[] end = new int[FILES];

        int holderAt(int file, int hour) {
            return hour < end[file] ? holder[file] : NONE;
        }

        void take(int file, int machine, int newEnd) {
            holder[file] = machine;
            end[file] = newEnd;
        }
    }

    private static final class Shares {
        private static final int FOR_GOOD = LAST_HOUR + 1;

        private final int[] rights = new int[FOLDERS * MACHINES];
        private final int[] end = new int[FOLDERS * MACHINES];

        Shares() {
            for (int place = 0; place < FOLDERS * MACHINES; place++) {
                rights[place] = WRITE;
                end[place] = FOR_GOOD;
            }
        }

        int rightAt(int folder, int machine, int hour) {
            int place = folder * MACHINES + machine;
            return hour < end[place] ? rights[place] : NO_RIGHT;
        }

        void set(int folder, int machine, int right, int newEnd) {
            int place = folder * MACHINES + machine;
            rights[place] = right;
            end[place] = newEnd;
        }
    }

    private static final class Holds {
        int size = 0;
        private final int[] file = new int[MOST_HOLDS];
        private final int[] from = new int[MOST_HOLDS];
        private final int[] to = new int[MOST_HOLDS];

        void add(int newFile, int newFrom, int newTo) {
            if (size < MOST_HOLDS) {
                file[size] = newFile;
                from[size] = newFrom;
                to[size] = newTo;
                size++;
            }
        }

        boolean isHeld(int wanted, int hour) {
            for (int place = 0; place < size; place++) {
                if (file[place] == wanted && from[place] <= hour && hour <= to[place]) {
                    return true;
                }
            }
            return false;
        }
    }
}
