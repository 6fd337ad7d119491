/** A belt that feeds and weighs. The document's promises say what each call answers. */
public final class BeltSums {
    public static final int INVALID_ARGUMENT = -1000001;
    public static final int NOT_POSSIBLE = -1000002;
    public static final int LIMIT_REACHED = -1000003;
    public static final int NOT_FOUND = -1000004;

    private static final int KINDS = 4;
    private static final int PLACES = 12;
    private static final int FIRST_SEEN_PLACE = 4;
    private static final int SEEN_PLACES = 4;
    private static final int MOST_LOTS = 6;
    private static final int MOST_BINS = 8;
    private static final int MOST_ACCOUNTS = 8;
    private static final int MOST_STATES = 4;
    private static final int MOST_CHARACTERS = 60;
    private static final int MOST_DIGITS = 4;
    private static final int MOST_MASS = 9999;
    private static final int MOST_WIDTH = 200;
    private static final int MOST_TICKS = 200;
    private static final int LAST_TIME = 9000;
    private static final int LONGEST_PLAN = 2000;
    private static final int TICKS_AT_REST = 4;
    private static final int WHOLE_FACTOR = 1000;
    private static final int LEAST_FACTOR = 500;
    private static final int MOST_FACTOR = 2000;

    private static final int SETTINGS = 3;
    private static final int PLACE_CARRIES = 0;
    private static final int DRIFT_TICKS = 1;
    private static final int DRIFT_STEP = 2;
    private static final int[] FIRST_SETTINGS = {120, 20, 1};
    private static final int[] LEAST_SETTINGS = {1, 1, -9};
    private static final int[] MOST_SETTINGS = {500, 99, 9};

    // What can be below 0 is told with one of these added, so that it never looks like an error.
    private static final int SHIFT_OF_READINGS = 1000000;
    private static final int SHIFT_OF_SUMS = 1000000000;
    private static final int SHIFT_OF_DRIFT_STEP = 10;

    private static final int NO_FAULT = 0;
    private static final int NOT_OF_THE_FORM = 1;
    private static final int REFUSED = 2;

    private final Plant now;
    // Holds what was before a change, and what would be in plans and texts: no call needs both.
    private final Plant spare;
    private final History history;
    private final Text text;
    private final Rehearsal rehearsal;

    public BeltSums() {
        now = new Plant();
        spare = new Plant();
        history = new History();
        text = new Text();
        rehearsal = new Rehearsal();
    }

    // ---- hopper, gate, belt

    public int lot(int kind, int mass) {
        spare.copyFrom(now);
        return recorded(now.putLot(kind, mass));
    }

    public int gate(int width) {
        spare.copyFrom(now);
        return recorded(now.setGate(width));
    }

    public int run(int on) {
        spare.copyFrom(now);
        return recorded(now.switchBelt(on));
    }

    public int bin() {
        spare.copyFrom(now);
        return recorded(now.putBin());
    }

    public int batch(int mass) {
        spare.copyFrom(now);
        return recorded(now.beginBatch(mass));
    }

    public int tick(int many) {
        spare.copyFrom(now);
        return recorded(now.passTicks(many));
    }

    // ---- the scale

    public int zero() {
        spare.copyFrom(now);
        return recorded(now.setZero());
    }

    public int correct(int bin) {
        spare.copyFrom(now);
        return recorded(now.correctBy(bin));
    }

    public int set(int what, int value) {
        spare.copyFrom(now);
        return recorded(now.changeSetting(what, value));
    }

    // ---- accounts

    public int account(int within) {
        spare.copyFrom(now);
        return recorded(now.accounts.add(within));
    }

    public int book(int kind, int account) {
        spare.copyFrom(now);
        return recorded(now.accounts.assign(kind, account));
    }

    public int accountOf(int account, int what) {
        Accounts accounts = now.accounts;
        if (!accounts.has(account)) {
            return INVALID_ARGUMENT;
        }
        switch (what) {
            case 0:
                return account == 0 ? NOT_FOUND : accounts.within[account];
            case 1:
                return accounts.own[account];
            case 2:
                return accounts.massWithAllUnder(account);
            case 3:
                return accounts.countUnder(account);
            case 4:
                return accounts.depth(account);
            default:
                return INVALID_ARGUMENT;
        }
    }

    // ---- what there is

    public int massAt(int place, int kind) {
        if (place < 0 || place >= PLACES || kind < -1 || kind >= KINDS) {
            return INVALID_ARGUMENT;
        }
        return kind < 0 ? now.belt.massOfPlace(place) : now.belt.mass(place, kind);
    }

    public int lotOf(int index, int what) {
        if (index < 0 || what < 0 || what > 1) {
            return INVALID_ARGUMENT;
        }
        if (index >= now.hopper.lots) {
            return NOT_FOUND;
        }
        return what == 0 ? now.hopper.kinds[index] : now.hopper.masses[index];
    }

    public int binOf(int bin, int what) {
        Bins bins = now.bins;
        if (!bins.has(bin)) {
            return INVALID_ARGUMENT;
        }
        if (isKind(what)) {
            return bins.masses[bin * KINDS + what];
        }
        switch (what) {
            case 4:
                return bins.massOf(bin);
            case 5:
                return bins.grown[bin] + SHIFT_OF_SUMS;
            case 6:
                return bins.ticksFilled[bin];
            default:
                return INVALID_ARGUMENT;
        }
    }

    public int scale(int what) {
        Scale scale = now.scale;
        switch (what) {
            case 0:
                return scale.reading(now.belt.massSeen()) + SHIFT_OF_READINGS;
            case 1:
                return scale.drift + SHIFT_OF_READINGS;
            case 2:
                return scale.zero + SHIFT_OF_READINGS;
            case 3:
                return scale.sum + SHIFT_OF_SUMS;
            case 4:
                return scale.toldTotal() + SHIFT_OF_SUMS;
            case 5:
                return scale.factor;
            case 6:
                return now.ticksStood;
            default:
                return INVALID_ARGUMENT;
        }
    }

    public int count(int what) {
        if (what >= 20 && what < 20 + SETTINGS) {
            int setting = what - 20;
            return now.settings[setting] + (setting == DRIFT_STEP ? SHIFT_OF_DRIFT_STEP : 0);
        }
        if (isKind(what - 30)) {
            return now.accounts.assigned[what - 30];
        }
        switch (what) {
            case 0:
                return now.hopper.lots;
            case 1:
                return now.gateWidth;
            case 2:
                return now.switchedOn;
            case 3:
                return now.bins.many;
            case 4:
                return now.bins.many == 0 ? NOT_FOUND : now.bins.many - 1;
            case 5:
                return now.hasBatch() ? now.batchMass : NOT_FOUND;
            case 6:
                return now.hasBatch() ? (now.batchStopped ? 1 : 0) : NOT_FOUND;
            case 7:
                return now.time;
            case 8:
                return now.belt.total;
            case 9:
                return now.hopper.massInside();
            case 10:
                return now.hopper.putSoFar;
            case 11:
                return now.bins.massOfAll();
            case 12:
                return now.spilt;
            case 13:
                return now.accounts.many;
            case 14:
                return history.states;
            case 15:
                return text.length;
            default:
                return INVALID_ARGUMENT;
        }
    }

    // ---- what would be

    public int batchIn() {
        return now.hasBatch() ? foretell() : NOT_POSSIBLE;
    }

    public int batchOut() {
        if (!now.hasBatch()) {
            return NOT_POSSIBLE;
        }
        return foretell() == NOT_FOUND ? NOT_FOUND : spare.bins.massOfPresent();
    }

    public int error() {
        return now.scale.toldTotal() - now.fallen + SHIFT_OF_SUMS;
    }

    public int undo() {
        if (history.states == 0) {
            return NOT_POSSIBLE;
        }
        history.pullInto(now);
        return history.states;
    }

    // ---- texts

    public int type(int character) {
        if (character < 32 || character > 126) {
            return INVALID_ARGUMENT;
        }
        if (text.length >= MOST_CHARACTERS) {
            return LIMIT_REACHED;
        }
        text.append((char) character);
        return text.length;
    }

    public int clearText() {
        int length = text.length;
        text.length = 0;
        return length;
    }

    public int fault(int what) {
        if (what < 0 || what > 2) {
            return INVALID_ARGUMENT;
        }
        rehearsal.perform(text, now, spare);
        if (rehearsal.reason == NO_FAULT) {
            return NOT_FOUND;
        }
        if (what == 0) {
            return rehearsal.position;
        }
        if (what == 1) {
            return rehearsal.reason;
        }
        return rehearsal.reason == REFUSED ? rehearsal.cause : NOT_FOUND;
    }

    public int play() {
        rehearsal.perform(text, now, spare);
        if (rehearsal.reason != NO_FAULT) {
            return NOT_POSSIBLE;
        }
        history.push(now);
        now.copyFrom(spare);
        return rehearsal.done;
    }

    // The spare holds what was before the call; a call that answers an error is no change.
    private int recorded(int answer) {
        if (!isError(answer)) {
            history.push(spare);
        }
        return answer;
    }

    // The spare then stands as the belt would when the batch is done.
    private int foretell() {
        spare.copyFrom(now);
        for (int ticks = 1; ticks <= LONGEST_PLAN; ticks++) {
            spare.passTick();
            if (!spare.hasBatch()) {
                return ticks;
            }
        }
        return NOT_FOUND;
    }

    private static boolean isError(int answer) {
        return answer >= NOT_FOUND && answer <= INVALID_ARGUMENT;
    }

    private static boolean isKind(int kind) {
        return kind >= 0 && kind < KINDS;
    }

    private static void copyInto(int[] target, int[] source) {
        System.arraycopy(source, 0, target, 0, Math.min(source.length, target.length));
    }

    /** All that a change can change and undo restores: everything but the text. */
    private static final class Plant {
        final Hopper hopper = new Hopper();
        final Belt belt = new Belt();
        final Bins bins = new Bins();
        final Scale scale = new Scale();
        final Accounts accounts = new Accounts();
        final int[] settings = new int[SETTINGS];
        int gateWidth = 50;
        int switchedOn;
        int batchMass;
        boolean batchStopped;
        int cameInBatch;
        int time;
        int ticksStood;
        int spilt;
        int fallen;

        Plant() {
            copyInto(settings, FIRST_SETTINGS);
        }

        void copyFrom(Plant other) {
            hopper.copyFrom(other.hopper);
            belt.copyFrom(other.belt);
            bins.copyFrom(other.bins);
            scale.copyFrom(other.scale);
            accounts.copyFrom(other.accounts);
            copyInto(settings, other.settings);
            gateWidth = other.gateWidth;
            switchedOn = other.switchedOn;
            batchMass = other.batchMass;
            batchStopped = other.batchStopped;
            cameInBatch = other.cameInBatch;
            time = other.time;
            ticksStood = other.ticksStood;
            spilt = other.spilt;
            fallen = other.fallen;
        }

        // A batch's mass is at least 1, so that 0 can stand for no batch.
        boolean hasBatch() {
            return batchMass > 0;
        }

        int putLot(int kind, int mass) {
            if (!isKind(kind) || mass < 1 || mass > MOST_MASS) {
                return INVALID_ARGUMENT;
            }
            if (hopper.lots >= MOST_LOTS) {
                return LIMIT_REACHED;
            }
            hopper.append(kind, mass);
            return hopper.lots;
        }

        int setGate(int width) {
            if (width < 0 || width > MOST_WIDTH) {
                return INVALID_ARGUMENT;
            }
            int was = gateWidth;
            gateWidth = width;
            return was;
        }

        int switchBelt(int on) {
            if (on < 0 || on > 1) {
                return INVALID_ARGUMENT;
            }
            if (hasBatch()) {
                return NOT_POSSIBLE;
            }
            int was = switchedOn;
            switchedOn = on;
            return was;
        }

        int putBin() {
            if (hasBatch()) {
                return NOT_POSSIBLE;
            }
            if (bins.many >= MOST_BINS) {
                return LIMIT_REACHED;
            }
            bins.many++;
            return bins.many - 1;
        }

        int beginBatch(int mass) {
            if (mass < 1 || mass > MOST_MASS) {
                return INVALID_ARGUMENT;
            }
            if (hasBatch() || bins.many == 0) {
                return NOT_POSSIBLE;
            }
            switchedOn = 0;
            batchMass = mass;
            batchStopped = false;
            cameInBatch = 0;
            return belt.total;
        }

        int passTicks(int many) {
            if (many < 1 || many > MOST_TICKS) {
                return INVALID_ARGUMENT;
            }
            if (time + many > LAST_TIME) {
                return LIMIT_REACHED;
            }
            int fell = 0;
            for (int i = 0; i < many; i++) {
                fell += passTick();
            }
            return fell;
        }

        int passTick() {
            time++;
            int driftTicks = settings[DRIFT_TICKS];
            if (driftTicks > 0 && time % driftTicks == 0) {
                scale.drift += settings[DRIFT_STEP];
            }
            if (hasBatch() && !wantsMore()) {
                batchStopped = true;
            }
            if (!hasBatch() && switchedOn == 0) {
                ticksStood++;
                return 0;
            }
            ticksStood = 0;
            int fell = dropAtEnd();
            belt.goOn();
            if (!batchStopped) {
                feed();
                spillTooMuch();
            }
            bins.growPresent(scale.weigh(belt.massSeen()));
            if (batchStopped && belt.total == 0) {
                endBatch();
            }
            return fell;
        }

        private boolean wantsMore() {
            return belt.total + cameInBatch < batchMass && hopper.lots > 0;
        }

        private int dropAtEnd() {
            int fell = 0;
            for (int kind = 0; kind < KINDS; kind++) {
                int mass = belt.mass(PLACES - 1, kind);
                belt.take(PLACES - 1, kind, mass);
                fell += mass;
                if (bins.many > 0) {
                    bins.addToPresent(kind, mass);
                    accounts.enter(kind, mass);
                } else {
                    spilt += mass;
                }
            }
            if (fell > 0) {
                bins.countFilledTick();
            }
            // No bin comes in a batch: all of this falls into the one that was present when it began.
            cameInBatch += fell;
            fallen += fell;
            return fell;
        }

        private void feed() {
            int wanted = gateWidth;
            for (int i = 0; i < MOST_LOTS && wanted > 0 && hopper.lots > 0; i++) {
                int taken = Math.min(wanted, hopper.masses[0]);
                belt.putAtStart(hopper.kinds[0], taken);
                hopper.takeFromFirst(taken);
                wanted -= taken;
            }
        }

        private void spillTooMuch() {
            int tooMuch = belt.massOfPlace(0) - settings[PLACE_CARRIES];
            for (int kind = KINDS - 1; kind >= 0 && tooMuch > 0; kind--) {
                int mass = Math.min(tooMuch, belt.mass(0, kind));
                belt.take(0, kind, mass);
                spilt += mass;
                tooMuch -= mass;
            }
        }

        private void endBatch() {
            batchMass = 0;
            batchStopped = false;
        }

        int setZero() {
            int seen = belt.massSeen();
            if (ticksStood < TICKS_AT_REST && seen > 0) {
                return NOT_POSSIBLE;
            }
            int was = scale.zero;
            scale.zero = seen + scale.drift;
            return was + SHIFT_OF_READINGS;
        }

        int correctBy(int bin) {
            if (!bins.has(bin)) {
                return INVALID_ARGUMENT;
            }
            int grown = bins.grown[bin];
            if (grown <= 0) {
                return NOT_POSSIBLE;
            }
            // An int holds this: at most 200 grams fall in each of 9000 ticks.
            int factor = WHOLE_FACTOR * bins.massOf(bin) / grown;
            if (factor < LEAST_FACTOR || factor > MOST_FACTOR) {
                return NOT_POSSIBLE;
            }
            scale.factor = factor;
            return factor;
        }

        int changeSetting(int what, int value) {
            if (what < 0 || what >= SETTINGS) {
                return INVALID_ARGUMENT;
            }
            if (value < LEAST_SETTINGS[what] || value > MOST_SETTINGS[what]) {
                return INVALID_ARGUMENT;
            }
            int was = settings[what];
            settings[what] = value;
            return was;
        }
    }

    private static final class Hopper {
        final int[] kinds = new int[MOST_LOTS];
        final int[] masses = new int[MOST_LOTS];
        int lots;
        int putSoFar;

        void copyFrom(Hopper other) {
            copyInto(kinds, other.kinds);
            copyInto(masses, other.masses);
            lots = other.lots;
            putSoFar = other.putSoFar;
        }

        void append(int kind, int mass) {
            if (lots < MOST_LOTS) {
                kinds[lots] = kind;
                masses[lots] = mass;
                lots++;
                putSoFar += mass;
            }
        }

        void takeFromFirst(int mass) {
            masses[0] -= mass;
            if (masses[0] == 0) {
                for (int i = 1; i < MOST_LOTS; i++) {
                    kinds[i - 1] = kinds[i];
                    masses[i - 1] = masses[i];
                }
                lots--;
            }
        }

        int massInside() {
            int mass = 0;
            for (int i = 0; i < lots && i < MOST_LOTS; i++) {
                mass += masses[i];
            }
            return mass;
        }
    }

    /** Its rows lie in a ring: the start turns back by one row, and no mass is moved. */
    private static final class Belt {
        final int[] masses = new int[PLACES * KINDS];
        int start;
        int total;

        void copyFrom(Belt other) {
            copyInto(masses, other.masses);
            start = other.start;
            total = other.total;
        }

        int mass(int place, int kind) {
            return masses[(start + place) % PLACES * KINDS + kind];
        }

        void take(int place, int kind, int mass) {
            masses[(start + place) % PLACES * KINDS + kind] -= mass;
            total -= mass;
        }

        void putAtStart(int kind, int mass) {
            masses[start * KINDS + kind] += mass;
            total += mass;
        }

        // What lay at the end has been taken from there: its row is empty, and comes to the start.
        void goOn() {
            start = (start + PLACES - 1) % PLACES;
        }

        int massOfPlace(int place) {
            int row = (start + place) % PLACES * KINDS;
            int mass = 0;
            for (int kind = 0; kind < KINDS; kind++) {
                mass += masses[row + kind];
            }
            return mass;
        }

        int massSeen() {
            int mass = 0;
            for (int i = 0; i < SEEN_PLACES; i++) {
                mass += massOfPlace(FIRST_SEEN_PLACE + i);
            }
            return mass;
        }
    }

    /** The last one is the present one; without a bin nothing is kept. */
    private static final class Bins {
        final int[] masses = new int[MOST_BINS * KINDS];
        final int[] grown = new int[MOST_BINS];
        final int[] ticksFilled = new int[MOST_BINS];
        int many;

        void copyFrom(Bins other) {
            copyInto(masses, other.masses);
            copyInto(grown, other.grown);
            copyInto(ticksFilled, other.ticksFilled);
            many = other.many;
        }

        boolean has(int bin) {
            return bin >= 0 && bin < many;
        }

        void addToPresent(int kind, int mass) {
            if (many > 0) {
                masses[(many - 1) * KINDS + kind] += mass;
            }
        }

        void growPresent(int step) {
            if (many > 0) {
                grown[many - 1] += step;
            }
        }

        void countFilledTick() {
            if (many > 0) {
                ticksFilled[many - 1]++;
            }
        }

        int massOf(int bin) {
            int mass = 0;
            for (int kind = 0; kind < KINDS; kind++) {
                mass += masses[bin * KINDS + kind];
            }
            return mass;
        }

        int massOfPresent() {
            return many > 0 ? massOf(many - 1) : 0;
        }

        int massOfAll() {
            int mass = 0;
            for (int i = 0; i < masses.length; i++) {
                mass += masses[i];
            }
            return mass;
        }
    }

    private static final class Scale {
        int drift;
        int zero;
        int sum;
        int rest;
        int factor = WHOLE_FACTOR;

        void copyFrom(Scale other) {
            drift = other.drift;
            zero = other.zero;
            sum = other.sum;
            rest = other.rest;
            factor = other.factor;
        }

        int reading(int massSeen) {
            return massSeen + drift - zero;
        }

        /** Answers what the sum becomes greater by. */
        int weigh(int massSeen) {
            int divided = reading(massSeen) + rest;
            int step = divided / SEEN_PLACES;
            rest = divided % SEEN_PLACES;
            sum += step;
            return step;
        }

        // The product is more than an int holds.
        int toldTotal() {
            return (int) ((long) sum * factor / WHOLE_FACTOR);
        }
    }

    private static final class Accounts {
        final int[] within = new int[MOST_ACCOUNTS];
        final int[] own = new int[MOST_ACCOUNTS];
        final int[] assigned = new int[KINDS];
        int many = 1;

        void copyFrom(Accounts other) {
            copyInto(within, other.within);
            copyInto(own, other.own);
            copyInto(assigned, other.assigned);
            many = other.many;
        }

        boolean has(int account) {
            return account >= 0 && account < many;
        }

        int add(int outer) {
            if (!has(outer)) {
                return INVALID_ARGUMENT;
            }
            if (many >= MOST_ACCOUNTS) {
                return LIMIT_REACHED;
            }
            within[many] = outer;
            many++;
            return many - 1;
        }

        int assign(int kind, int account) {
            if (!isKind(kind) || !has(account)) {
                return INVALID_ARGUMENT;
            }
            int was = assigned[kind];
            assigned[kind] = account;
            return was;
        }

        void enter(int kind, int mass) {
            own[assigned[kind]] += mass;
        }

        boolean isUnder(int account, int outer) {
            int at = account;
            for (int i = 0; i < MOST_ACCOUNTS && at > outer; i++) {
                at = within[at];
            }
            // An account's number is above those around it: the way up passes outer, or jumps it.
            return at == outer && account != outer;
        }

        int massWithAllUnder(int outer) {
            int mass = own[outer];
            for (int account = outer + 1; account < many; account++) {
                if (isUnder(account, outer)) {
                    mass += own[account];
                }
            }
            return mass;
        }

        int countUnder(int outer) {
            int under = 0;
            for (int account = outer + 1; account < many; account++) {
                if (isUnder(account, outer)) {
                    under++;
                }
            }
            return under;
        }

        int depth(int account) {
            int depth = 0;
            int at = account;
            for (int i = 0; i < MOST_ACCOUNTS && at > 0; i++) {
                at = within[at];
                depth++;
            }
            return depth;
        }
    }

    /** The latest states; the places of states that are gone are used again. */
    private static final class History {
        Plant latest = new Plant();
        Plant second = new Plant();
        Plant third = new Plant();
        Plant oldest = new Plant();
        int states;

        void push(Plant plant) {
            Plant dropped = oldest;
            oldest = third;
            third = second;
            second = latest;
            latest = dropped;
            latest.copyFrom(plant);
            states = Math.min(states + 1, MOST_STATES);
        }

        void pullInto(Plant plant) {
            Plant restored = latest;
            plant.copyFrom(restored);
            latest = second;
            second = third;
            third = oldest;
            oldest = restored;
            states--;
        }
    }

    private static final class Text {
        final char[] characters = new char[MOST_CHARACTERS];
        int length;

        void append(char character) {
            if (length < MOST_CHARACTERS) {
                characters[length] = character;
                length++;
            }
        }

        // 0 is no character that can be typed: it stands for the end of the text.
        int at(int position) {
            return position >= 0 && position < length ? characters[position] : 0;
        }
    }

    /** The command that was read last. */
    private static final class Command {
        int letter;
        int first;
        int second;
        int end;

        /** Answers whether the command at the position is of the form, its ";" included. */
        boolean read(Text text, int position) {
            letter = text.at(position);
            first = 0;
            second = 0;
            end = position + 1;
            switch (letter) {
                case 'b':
                case 's':
                case 'x':
                case 'z':
                    return passes(text, ';');
                case 'g':
                case 'm':
                case 'c':
                case 't':
                    first = readNumber(text);
                    return first >= 0 && passes(text, ';');
                case 'l':
                    first = readNumber(text);
                    if (first < 0 || !passes(text, ',')) {
                        return false;
                    }
                    second = readNumber(text);
                    return second >= 0 && passes(text, ';');
                default:
                    return false;
            }
        }

        private boolean passes(Text text, int sign) {
            if (text.at(end) != sign) {
                return false;
            }
            end++;
            return true;
        }

        /** Answers the number at the end of what was read, or -1 without one. */
        private int readNumber(Text text) {
            int number = -1;
            for (int digits = 0; digits < MOST_DIGITS; digits++) {
                int digit = text.at(end) - '0';
                if (digit < 0 || digit > 9) {
                    return number;
                }
                number = Math.max(number, 0) * 10 + digit;
                end++;
            }
            return number;
        }

        int carryOut(Plant plant) {
            switch (letter) {
                case 'l':
                    return plant.putLot(first, second);
                case 'g':
                    return plant.setGate(first);
                case 'b':
                    return plant.putBin();
                case 's':
                    return plant.switchBelt(1);
                case 'x':
                    return plant.switchBelt(0);
                case 'm':
                    return plant.beginBatch(first);
                case 'z':
                    return plant.setZero();
                case 'c':
                    return plant.correctBy(first);
                case 't':
                    return plant.passTicks(first);
                default:
                    return INVALID_ARGUMENT;
            }
        }
    }

    /** Does a text's commands on a copy of a plant up to their fault, and keeps what came of it. */
    private static final class Rehearsal {
        final Command command = new Command();
        int position;
        int reason;
        int cause;
        int done;

        void perform(Text text, Plant plant, Plant copy) {
            copy.copyFrom(plant);
            position = 0;
            reason = NO_FAULT;
            cause = 0;
            done = 0;
            for (int i = 0; i < MOST_CHARACTERS && position < text.length; i++) {
                if (!command.read(text, position)) {
                    reason = NOT_OF_THE_FORM;
                    return;
                }
                int answer = command.carryOut(copy);
                if (isError(answer)) {
                    reason = REFUSED;
                    cause = answer;
                    return;
                }
                position = command.end;
                done++;
            }
        }
    }
}
