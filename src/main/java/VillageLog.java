/** A log that a village keeps by councils whose elders are drawn by lot. */
public final class VillageLog {
    public static final int INVALID_ARGUMENT = -1;
    public static final int ILLEGAL_STATE = -2;
    public static final int CAPACITY_EXCEEDED = -3;
    public static final int NONE = -9;

    private static final int MOST_VILLAGERS = 12;
    private static final int MOST_SEATS = 5;
    private static final int MOST_ENTRIES = 60;
    private static final int MOST_CHARACTERS = 60;
    private static final int MOST_STATES = 5;
    private static final int MOST_NUMBER = 999;
    private static final int MOST_DIGITS = 3;
    private static final int LAST_CHARACTER = 255;
    private static final int LOT_STATES = 65536;
    private static final int FAILURE = -1000;

    private final Village village;
    private final History history;
    private final Text text;

    public VillageLog() {
        village = new Village();
        history = new History();
        text = new Text();
    }

    // ---- villagers and councils

    public int come() {
        history.note(village);
        return kept(village.letCome());
    }

    public int attend(int villager, int is) {
        history.note(village);
        return kept(village.letAttend(villager, is));
    }

    public int found(int size) {
        history.note(village);
        return kept(village.setFirstCouncil(size));
    }

    public int setLot(int state) {
        history.note(village);
        return kept(village.setLotState(state));
    }

    public int change(int elder, int seat) {
        history.note(village);
        return kept(village.beginChange(elder, seat));
    }

    public int forge(int villager) {
        history.note(village);
        return kept(village.forgeLot(villager));
    }

    // ---- the log

    public int propose(int elder, int number) {
        history.note(village);
        return kept(village.proposeEntry(elder, number));
    }

    public int second(int elder, int entry) {
        history.note(village);
        return kept(village.secondEntry(elder, entry));
    }

    public int learn(int villager) {
        history.note(village);
        return kept(village.learnEntries(villager));
    }

    public int undo() {
        return history.stepBack(village);
    }

    // ---- texts

    public int append(int character) {
        return text.add(character);
    }

    public int clearText() {
        return text.clear();
    }

    public int run() {
        history.note(village);
        text.rewind();
        int commands = 0;
        while (commands < MOST_CHARACTERS && !text.isRead()) {
            int start = text.place();
            if (!text.readCommand()) {
                return failedRun(text.place());
            }
            if (callCommand(text.letter(), text.villagerRead(), text.numberRead()) < 0) {
                return failedRun(start);
            }
            commands++;
        }
        text.clear();
        return kept(commands);
    }

    // ---- looking

    public int count(int what) {
        switch (what) {
            case 10: return history.length();
            case 11: return text.length();
            default: return village.tally(what);
        }
    }

    public int elder(int council, int seat) {
        return village.elderOf(council, seat);
    }

    public int villager(int villager, int what) {
        return village.aboutVillager(villager, what);
    }

    public int entry(int entry, int what) {
        return village.aboutEntry(entry, what);
    }

    public int draw(int draw, int what) {
        return village.aboutDraw(draw, what);
    }

    // ---- what could be, which changes nothing

    public int missing(int entry) {
        return village.missingElders(entry);
    }

    public int reachable() {
        return village.reachableEntries();
    }

    public int nextDrawn(int seat) {
        return village.drawnNext(seat);
    }

    public int spare() {
        return village.spareVillagers();
    }

    public int lotFor(int villager, int seat) {
        return village.lotToDraw(villager, seat);
    }

    /** Passes on the answer of an action, and keeps the state before it unless it was refused. */
    private int kept(int answer) {
        if (answer >= 0) {
            history.keep();
        }
        return answer;
    }

    /** Takes back what the text has done, and answers with the place of its failure. */
    private int failedRun(int place) {
        history.restore(village);
        return FAILURE - place;
    }

    /** Calls the village and not the public methods, since a whole text is one action. */
    private int callCommand(int letter, int villager, int number) {
        switch (letter) {
            case 'p': return village.proposeEntry(villager, number);
            case 's': return village.secondEntry(villager, number);
            case 'l': return village.learnEntries(villager);
            case 'g': return village.letAttend(villager, 0);
            case 'b': return village.letAttend(villager, 1);
            default: return INVALID_ARGUMENT;
        }
    }

    /** One state: everything but the text and the history. */
    private static final class Village {
        private int villagers;
        private final int[] present = new int[MOST_VILLAGERS];
        // A copy is always a row from entry 0 on, so its length tells all of it.
        private final int[] copied = new int[MOST_VILLAGERS];

        // While no change goes on, both councils are alike.
        private final Council oldCouncil = new Council();
        private final Council newCouncil = new Council();
        private int term;
        private int changeEntry = NONE;
        private final Lot lot = new Lot();

        private int entries;
        // Entries are agreed in their order, so the number of them tells which.
        private int agreed;
        private final int[] numbers = new int[MOST_ENTRIES];
        private final int[] terms = new int[MOST_ENTRIES];
        private final int[] proposers = new int[MOST_ENTRIES];

        void copyFrom(Village other) {
            villagers = other.villagers;
            System.arraycopy(other.present, 0, present, 0, MOST_VILLAGERS);
            System.arraycopy(other.copied, 0, copied, 0, MOST_VILLAGERS);
            oldCouncil.copyFrom(other.oldCouncil);
            newCouncil.copyFrom(other.newCouncil);
            term = other.term;
            changeEntry = other.changeEntry;
            lot.copyFrom(other.lot);
            entries = other.entries;
            agreed = other.agreed;
            System.arraycopy(other.numbers, 0, numbers, 0, MOST_ENTRIES);
            System.arraycopy(other.terms, 0, terms, 0, MOST_ENTRIES);
            System.arraycopy(other.proposers, 0, proposers, 0, MOST_ENTRIES);
        }

        int letCome() {
            if (villagers >= MOST_VILLAGERS) {
                return CAPACITY_EXCEEDED;
            }
            present[villagers] = 1;
            copied[villagers] = 0;
            villagers++;
            return villagers - 1;
        }

        int letAttend(int villager, int is) {
            if (!isVillager(villager) || is < 0 || is > 1) {
                return INVALID_ARGUMENT;
            }
            if (present[villager] == is) {
                return ILLEGAL_STATE;
            }
            present[villager] = is;
            return presentVillagers();
        }

        int setFirstCouncil(int size) {
            if (size < 1 || size > MOST_SEATS) {
                return INVALID_ARGUMENT;
            }
            if (!oldCouncil.isEmpty() || size > villagers) {
                return ILLEGAL_STATE;
            }
            oldCouncil.seatFirst(size);
            newCouncil.copyFrom(oldCouncil);
            return size;
        }

        int setLotState(int state) {
            if (state < 0 || state >= LOT_STATES) {
                return INVALID_ARGUMENT;
            }
            return lot.setState(state);
        }

        int beginChange(int elder, int seat) {
            if (!isVillager(elder) || !oldCouncil.hasSeat(seat)) {
                return INVALID_ARGUMENT;
            }
            int drawn = drawnWith(lot.state());
            if (isChanging() || !mayAct(elder) || copied[elder] < entries || drawn == NONE) {
                return ILLEGAL_STATE;
            }
            if (entries >= MOST_ENTRIES) {
                return CAPACITY_EXCEEDED;
            }
            lot.write(candidates(), drawn, seat);
            newCouncil.place(seat, drawn);
            changeEntry = entries;
            addEntry(elder, NONE);
            agree();
            return drawn;
        }

        int forgeLot(int villager) {
            if (!isVillager(villager)) {
                return INVALID_ARGUMENT;
            }
            if (!isChanging() || isElder(villager)) {
                return ILLEGAL_STATE;
            }
            int seat = lot.lastSeat();
            int replaced = newCouncil.elderOn(seat);
            newCouncil.place(seat, villager);
            lot.forgeLast(villager);
            agree();
            return replaced;
        }

        int proposeEntry(int elder, int number) {
            if (!isVillager(elder) || number < 0 || number > MOST_NUMBER) {
                return INVALID_ARGUMENT;
            }
            if (!mayAct(elder) || copied[elder] < entries) {
                return ILLEGAL_STATE;
            }
            if (entries >= MOST_ENTRIES) {
                return CAPACITY_EXCEEDED;
            }
            addEntry(elder, number);
            agree();
            return entries - 1;
        }

        int secondEntry(int elder, int entry) {
            if (!isVillager(elder) || !isEntry(entry)) {
                return INVALID_ARGUMENT;
            }
            if (!mayAct(elder) || copied[elder] != entry) {
                return ILLEGAL_STATE;
            }
            copied[elder]++;
            return agree();
        }

        int learnEntries(int villager) {
            if (!isVillager(villager)) {
                return INVALID_ARGUMENT;
            }
            if (present[villager] == 0) {
                return ILLEGAL_STATE;
            }
            int learned = Math.max(0, agreed - copied[villager]);
            copied[villager] += learned;
            return learned;
        }

        int tally(int what) {
            switch (what) {
                case 0: return villagers;
                case 1: return presentVillagers();
                case 2: return oldCouncil.size();
                case 3: return term;
                case 4: return entries;
                case 5: return agreed;
                case 6: return isChanging() ? 1 : 0;
                case 7: return lot.state();
                case 8: return lot.draws();
                case 9: return lot.forgedDraws();
                default: return INVALID_ARGUMENT;
            }
        }

        int elderOf(int council, int seat) {
            if (council < 0 || council > 1 || !oldCouncil.hasSeat(seat)) {
                return INVALID_ARGUMENT;
            }
            if (council == 0) {
                return oldCouncil.elderOn(seat);
            }
            return isChanging() ? newCouncil.elderOn(seat) : NONE;
        }

        int aboutVillager(int villager, int what) {
            if (!isVillager(villager)) {
                return INVALID_ARGUMENT;
            }
            switch (what) {
                case 0: return present[villager];
                case 1: return copied[villager];
                case 2: return oldCouncil.seatOf(villager);
                case 3: return newCouncil.seatOf(villager);
                case 4: return lot.drawsOf(villager);
                default: return INVALID_ARGUMENT;
            }
        }

        int aboutEntry(int entry, int what) {
            if (!isEntry(entry)) {
                return INVALID_ARGUMENT;
            }
            switch (what) {
                case 0: return numbers[entry];
                case 1: return terms[entry];
                case 2: return entry < agreed ? 1 : 0;
                case 3: return copies(entry);
                case 4: return proposers[entry];
                case 5: return holders(oldCouncil, entry, false);
                case 6: return holders(newCouncil, entry, false);
                default: return INVALID_ARGUMENT;
            }
        }

        int aboutDraw(int draw, int what) {
            return lot.about(draw, what);
        }

        int missingElders(int entry) {
            if (!isEntry(entry)) {
                return INVALID_ARGUMENT;
            }
            return entry < agreed ? 0 : fewestToSecond(entry, oldCounts(entry));
        }

        int reachableEntries() {
            int reached = agreed;
            while (reached < entries && isSupported(reached, true)) {
                reached++;
            }
            return reached - agreed;
        }

        int drawnNext(int seat) {
            if (!oldCouncil.hasSeat(seat)) {
                return INVALID_ARGUMENT;
            }
            return isChanging() ? ILLEGAL_STATE : drawnWith(lot.state());
        }

        int spareVillagers() {
            if (oldCouncil.isEmpty()) {
                return NONE;
            }
            // The entry that would come next is in no copy yet, so all copies are alike in it.
            return villagers - fewestToSecond(entries, isChanging());
        }

        int lotToDraw(int villager, int seat) {
            if (!isVillager(villager) || !oldCouncil.hasSeat(seat)) {
                return INVALID_ARGUMENT;
            }
            if (isChanging()) {
                return ILLEGAL_STATE;
            }
            int candidates = candidates();
            if (oldCouncil.has(villager) || candidates <= 0) {
                return NONE;
            }
            int place = candidatesBefore(villager);
            for (int state = 0; state < LOT_STATES; state++) {
                if (Lot.after(state) % candidates == place) {
                    return state;
                }
            }
            return NONE;
        }

        private boolean isVillager(int villager) {
            return villager >= 0 && villager < villagers;
        }

        private boolean isEntry(int entry) {
            return entry >= 0 && entry < entries;
        }

        private boolean isChanging() {
            return changeEntry != NONE;
        }

        private boolean isElder(int villager) {
            return oldCouncil.has(villager) || newCouncil.has(villager);
        }

        private boolean mayAct(int villager) {
            return isElder(villager) && isPresent(villager);
        }

        private boolean isPresent(int villager) {
            return isVillager(villager) && present[villager] == 1;
        }

        private boolean holds(int villager, int entry) {
            return isVillager(villager) && copied[villager] > entry;
        }

        private int presentVillagers() {
            int number = 0;
            for (int villager = 0; villager < villagers; villager++) {
                number += present[villager];
            }
            return number;
        }

        private int copies(int entry) {
            int number = 0;
            for (int villager = 0; villager < villagers; villager++) {
                if (holds(villager, entry)) {
                    number++;
                }
            }
            return number;
        }

        private int candidates() {
            return candidatesBefore(villagers);
        }

        private int candidatesBefore(int end) {
            int number = 0;
            for (int villager = 0; villager < end; villager++) {
                if (!oldCouncil.has(villager)) {
                    number++;
                }
            }
            return number;
        }

        /** Tells whom the lot draws in a state, NONE without a candidate; every seat has the same candidates. */
        private int drawnWith(int state) {
            int candidates = candidates();
            if (candidates <= 0) {
                return NONE;
            }
            int place = Lot.after(state) % candidates;
            for (int villager = 0; villager < villagers; villager++) {
                if (!oldCouncil.has(villager)) {
                    if (place == 0) {
                        return villager;
                    }
                    place--;
                }
            }
            return NONE;
        }

        private void addEntry(int elder, int number) {
            numbers[entries] = number;
            terms[entries] = term;
            proposers[entries] = elder;
            entries++;
            copied[elder] = entries;
        }

        /** Agrees on one entry after the other, as an agreed change alters who counts for the next. */
        private int agree() {
            int before = agreed;
            while (agreed < entries && isSupported(agreed, false)) {
                if (agreed == changeEntry) {
                    endChange();
                }
                agreed++;
            }
            return agreed - before;
        }

        private void endChange() {
            oldCouncil.copyFrom(newCouncil);
            changeEntry = NONE;
            term++;
        }

        /** Behind the change entry the change will be over; without a change both councils are alike. */
        private boolean oldCounts(int entry) {
            return isChanging() && entry <= changeEntry;
        }

        private boolean isSupported(int entry, boolean allSecond) {
            if (holders(newCouncil, entry, allSecond) < newCouncil.majority()) {
                return false;
            }
            return !oldCounts(entry) || holders(oldCouncil, entry, allSecond) >= oldCouncil.majority();
        }

        /** Counts the elders who have an entry, or who would if all who are present seconded it. */
        private int holders(Council council, int entry, boolean allSecond) {
            int number = 0;
            for (int seat = 0; seat < council.size(); seat++) {
                int elder = council.elderOn(seat);
                if (holds(elder, entry) || allSecond && isPresent(elder)) {
                    number++;
                }
            }
            return number;
        }

        private int fewestToSecond(int entry, boolean oldToo) {
            int inNew = lacking(newCouncil, entry);
            if (!oldToo) {
                return inNew;
            }
            int inOld = lacking(oldCouncil, entry);
            // An elder of both councils serves both majorities at once.
            int inBoth = Math.min(Math.min(inOld, inNew), commonWithout(entry));
            return inOld + inNew - inBoth;
        }

        private int lacking(Council council, int entry) {
            return Math.max(0, council.majority() - holders(council, entry, false));
        }

        private int commonWithout(int entry) {
            int number = 0;
            for (int seat = 0; seat < oldCouncil.size(); seat++) {
                int elder = oldCouncil.elderOn(seat);
                if (newCouncil.has(elder) && !holds(elder, entry)) {
                    number++;
                }
            }
            return number;
        }
    }

    /** A row of elders on their seats. */
    private static final class Council {
        private int size;
        private final int[] elders = new int[MOST_SEATS];

        void copyFrom(Council other) {
            size = other.size;
            System.arraycopy(other.elders, 0, elders, 0, MOST_SEATS);
        }

        void seatFirst(int number) {
            size = Math.min(number, MOST_SEATS);
            for (int seat = 0; seat < size; seat++) {
                elders[seat] = seat;
            }
        }

        void place(int seat, int villager) {
            if (hasSeat(seat)) {
                elders[seat] = villager;
            }
        }

        int size() {
            return size;
        }

        boolean isEmpty() {
            return size == 0;
        }

        boolean hasSeat(int seat) {
            return seat >= 0 && seat < size;
        }

        int elderOn(int seat) {
            return hasSeat(seat) ? elders[seat] : NONE;
        }

        int seatOf(int villager) {
            for (int seat = 0; seat < size; seat++) {
                if (elders[seat] == villager) {
                    return seat;
                }
            }
            return NONE;
        }

        boolean has(int villager) {
            return seatOf(villager) != NONE;
        }

        int majority() {
            return size / 2 + 1;
        }
    }

    /** The state of the lot, and what was written down of every draw. */
    private static final class Lot {
        private int state = 1;
        // Every draw has its change entry, so there are no more draws than entries.
        private int draws;
        private final int[] states = new int[MOST_ENTRIES];
        private final int[] candidates = new int[MOST_ENTRIES];
        private final int[] drawn = new int[MOST_ENTRIES];
        private final int[] standing = new int[MOST_ENTRIES];
        private final int[] seats = new int[MOST_ENTRIES];

        static int after(int state) {
            return (state * 25173 + 13849) % LOT_STATES;
        }

        void copyFrom(Lot other) {
            state = other.state;
            draws = other.draws;
            System.arraycopy(other.states, 0, states, 0, MOST_ENTRIES);
            System.arraycopy(other.candidates, 0, candidates, 0, MOST_ENTRIES);
            System.arraycopy(other.drawn, 0, drawn, 0, MOST_ENTRIES);
            System.arraycopy(other.standing, 0, standing, 0, MOST_ENTRIES);
            System.arraycopy(other.seats, 0, seats, 0, MOST_ENTRIES);
        }

        int state() {
            return state;
        }

        int setState(int wanted) {
            int previous = state;
            state = wanted;
            return previous;
        }

        int draws() {
            return draws;
        }

        /** Writes a draw down and moves the lot on. */
        void write(int candidateNumber, int villager, int seat) {
            if (draws >= MOST_ENTRIES) {
                return;
            }
            states[draws] = state;
            candidates[draws] = candidateNumber;
            drawn[draws] = villager;
            standing[draws] = villager;
            seats[draws] = seat;
            draws++;
            state = after(state);
        }

        void forgeLast(int villager) {
            if (draws > 0) {
                standing[draws - 1] = villager;
            }
        }

        int lastSeat() {
            return draws > 0 ? seats[draws - 1] : NONE;
        }

        int forgedDraws() {
            int number = 0;
            for (int draw = 0; draw < draws; draw++) {
                if (isForged(draw)) {
                    number++;
                }
            }
            return number;
        }

        int drawsOf(int villager) {
            int number = 0;
            for (int draw = 0; draw < draws; draw++) {
                if (standing[draw] == villager) {
                    number++;
                }
            }
            return number;
        }

        int about(int draw, int what) {
            if (draw < 0 || draw >= draws) {
                return INVALID_ARGUMENT;
            }
            switch (what) {
                case 0: return states[draw];
                case 1: return candidates[draw];
                case 2: return standing[draw];
                case 3: return isForged(draw) ? 1 : 0;
                case 4: return seats[draw];
                default: return INVALID_ARGUMENT;
            }
        }

        private boolean isForged(int draw) {
            return draw >= 0 && draw < draws && standing[draw] != drawn[draw];
        }
    }

    /** The kept states, in a ring with a free row more: it takes the state before a call that may still fail. */
    private static final class History {
        private static final int ROWS = MOST_STATES + 1;

        private final Village[] rows = new Village[ROWS];
        private int free;
        private int length;

        History() {
            for (int row = 0; row < ROWS; row++) {
                rows[row] = new Village();
            }
        }

        int length() {
            return length;
        }

        void note(Village village) {
            rows[free].copyFrom(village);
        }

        void keep() {
            free = (free + 1) % ROWS;
            length = Math.min(length + 1, MOST_STATES);
        }

        void restore(Village village) {
            village.copyFrom(rows[free]);
        }

        int stepBack(Village village) {
            if (length == 0) {
                return ILLEGAL_STATE;
            }
            free = (free + ROWS - 1) % ROWS;
            length--;
            restore(village);
            return length;
        }
    }

    /** The text, the place up to which it is read, and the command that was read last. */
    private static final class Text {
        private final int[] characters = new int[MOST_CHARACTERS];
        private int length;
        private int place;
        private int letter;
        private int villagerRead;
        private int numberRead;

        int length() {
            return length;
        }

        int add(int character) {
            if (character < 1 || character > LAST_CHARACTER) {
                return INVALID_ARGUMENT;
            }
            if (length >= MOST_CHARACTERS) {
                return CAPACITY_EXCEEDED;
            }
            characters[length] = character;
            length++;
            return length;
        }

        int clear() {
            int previous = length;
            length = 0;
            return previous;
        }

        int place() {
            return place;
        }

        void rewind() {
            place = 0;
        }

        boolean isRead() {
            return place >= length;
        }

        int letter() {
            return letter;
        }

        int villagerRead() {
            return villagerRead;
        }

        int numberRead() {
            return numberRead;
        }

        /** Reads a command with its ";"; if something else stands there, the place is then that of it. */
        boolean readCommand() {
            letter = next();
            boolean hasNumber = letter == 'p' || letter == 's';
            if (!hasNumber && letter != 'l' && letter != 'g' && letter != 'b') {
                return false;
            }
            place++;
            villagerRead = readNumber();
            if (villagerRead == NONE) {
                return false;
            }
            numberRead = NONE;
            if (hasNumber) {
                if (!readSign(':')) {
                    return false;
                }
                numberRead = readNumber();
                if (numberRead == NONE) {
                    return false;
                }
            }
            return readSign(';');
        }

        private boolean readSign(int sign) {
            if (next() != sign) {
                return false;
            }
            place++;
            return true;
        }

        /** Reads a number, NONE if there is none; a digit too many is left for the next sign to refuse. */
        private int readNumber() {
            if (!isDigit(next())) {
                return NONE;
            }
            int number = next() - '0';
            place++;
            for (int digits = 1; digits < MOST_DIGITS && number != 0 && isDigit(next()); digits++) {
                number = number * 10 + next() - '0';
                place++;
            }
            return number;
        }

        private int next() {
            return place >= 0 && place < length ? characters[place] : NONE;
        }

        private static boolean isDigit(int character) {
            return character >= '0' && character <= '9';
        }
    }
}
