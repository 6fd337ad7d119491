import java.util.ArrayList;
import java.util.Arrays;
import java.util.List;

/**
 * The document told a second time, as slowly and literally as it stands there, to compare BeltSums with.
 * It shares no code with BeltSums, and uses the Java library freely.
 */
final class Model {
    static final long INVALID = -1000001, NOT_POSSIBLE = -1000002, LIMIT = -1000003, NOT_FOUND = -1000004;

    static final class Bin {
        final long[] kinds = new long[4];
        long sumGrowth, filledTicks;

        long all() {
            return Arrays.stream(kinds).sum();
        }

        Bin copy() {
            Bin c = new Bin();
            System.arraycopy(kinds, 0, c.kinds, 0, 4);
            c.sumGrowth = sumGrowth;
            c.filledTicks = filledTicks;
            return c;
        }
    }

    static final class State {
        List<long[]> lots = new ArrayList<>();
        List<long[]> places = new ArrayList<>();
        List<Bin> bins = new ArrayList<>();
        List<Integer> parents = new ArrayList<>();
        List<Long> booked = new ArrayList<>();
        int[] bookedTo = new int[4];
        long[] settings = {120, 20, 1};
        long gate = 50, on, time, stood, drift, zero, sum, rest, factor = 1000;
        long put, spiltAtStart, spiltAtEnd, fallen;
        Long batch;
        boolean feeding;
        long binAtBegin;

        State() {
            for (int i = 0; i < 12; i++) {
                places.add(new long[4]);
            }
            parents.add(-1);
            booked.add(0L);
        }

        State copy() {
            State c = new State();
            c.lots = new ArrayList<>();
            for (long[] l : lots) {
                c.lots.add(l.clone());
            }
            c.places = new ArrayList<>();
            for (long[] p : places) {
                c.places.add(p.clone());
            }
            for (Bin b : bins) {
                c.bins.add(b.copy());
            }
            c.parents = new ArrayList<>(parents);
            c.booked = new ArrayList<>(booked);
            c.bookedTo = bookedTo.clone();
            c.settings = settings.clone();
            c.gate = gate;
            c.on = on;
            c.time = time;
            c.stood = stood;
            c.drift = drift;
            c.zero = zero;
            c.sum = sum;
            c.rest = rest;
            c.factor = factor;
            c.put = put;
            c.spiltAtStart = spiltAtStart;
            c.spiltAtEnd = spiltAtEnd;
            c.fallen = fallen;
            c.batch = batch;
            c.feeding = feeding;
            c.binAtBegin = binAtBegin;
            return c;
        }

        long at(int place) {
            return Arrays.stream(places.get(place)).sum();
        }

        long onBelt() {
            long all = 0;
            for (int i = 0; i < 12; i++) {
                all += at(i);
            }
            return all;
        }

        long seen() {
            return at(4) + at(5) + at(6) + at(7);
        }

        Bin present() {
            return bins.isEmpty() ? null : bins.get(bins.size() - 1);
        }

        long told() {
            return sum * factor / 1000;
        }

        long oneTick() {
            time++;
            if (time % settings[1] == 0) {
                drift += settings[2];
            }
            if (batch != null && feeding) {
                boolean below = onBelt() + present().all() - binAtBegin < batch;
                if (!(below && !lots.isEmpty())) {
                    feeding = false;
                }
            }
            long fell = 0;
            if (batch != null || on == 1) {
                stood = 0;
                fell = runOnce(batch == null || feeding);
                long divided = seen() + drift - zero + rest;
                long quotient = Math.abs(divided) / 4 * Long.signum(divided);
                rest = divided - 4 * quotient;
                sum += quotient;
                if (present() != null) {
                    present().sumGrowth += quotient;
                }
            } else {
                stood++;
            }
            if (batch != null && !feeding && onBelt() == 0) {
                batch = null;
            }
            return fell;
        }

        private long runOnce(boolean feeds) {
            long[] end = places.remove(11);
            long fell = Arrays.stream(end).sum();
            fallen += fell;
            if (present() == null) {
                spiltAtEnd += fell;
            } else {
                for (int k = 0; k < 4; k++) {
                    present().kinds[k] += end[k];
                    booked.set(bookedTo[k], booked.get(bookedTo[k]) + end[k]);
                }
                if (fell > 0) {
                    present().filledTicks++;
                }
            }
            places.add(0, new long[4]);
            if (feeds) {
                // Gram by gram.
                for (int i = 0; i < gate && !lots.isEmpty(); i++) {
                    long[] first = lots.get(0);
                    first[1]--;
                    places.get(0)[(int) first[0]]++;
                    if (first[1] == 0) {
                        lots.remove(0);
                    }
                }
                while (at(0) > settings[0]) {
                    for (int k = 3; k >= 0; k--) {
                        if (places.get(0)[k] > 0) {
                            places.get(0)[k]--;
                            spiltAtStart++;
                            break;
                        }
                    }
                }
            }
            return fell;
        }

        long lot(int kind, int mass) {
            if (kind < 0 || kind > 3 || mass < 1 || mass > 9999) {
                return INVALID;
            }
            if (lots.size() == 6) {
                return LIMIT;
            }
            lots.add(new long[] {kind, mass});
            put += mass;
            return lots.size();
        }

        long gate(int width) {
            if (width < 0 || width > 200) {
                return INVALID;
            }
            long was = gate;
            gate = width;
            return was;
        }

        long run(int value) {
            if (value != 0 && value != 1) {
                return INVALID;
            }
            if (batch != null) {
                return NOT_POSSIBLE;
            }
            long was = on;
            on = value;
            return was;
        }

        long bin() {
            if (batch != null) {
                return NOT_POSSIBLE;
            }
            if (bins.size() == 8) {
                return LIMIT;
            }
            bins.add(new Bin());
            return bins.size() - 1;
        }

        long batch(int mass) {
            if (mass < 1 || mass > 9999) {
                return INVALID;
            }
            if (batch != null || bins.isEmpty()) {
                return NOT_POSSIBLE;
            }
            on = 0;
            batch = (long) mass;
            feeding = true;
            binAtBegin = present().all();
            return onBelt();
        }

        long tick(int many) {
            if (many < 1 || many > 200) {
                return INVALID;
            }
            if (time + many > 9000) {
                return LIMIT;
            }
            long fell = 0;
            for (int i = 0; i < many; i++) {
                fell += oneTick();
            }
            return fell;
        }

        long zero() {
            if (!(stood >= 4 || seen() == 0)) {
                return NOT_POSSIBLE;
            }
            long was = zero;
            zero = seen() + drift;
            return was + 1000000;
        }

        long correct(int bin) {
            if (bin < 0 || bin >= bins.size()) {
                return INVALID;
            }
            Bin b = bins.get(bin);
            if (b.sumGrowth <= 0) {
                return NOT_POSSIBLE;
            }
            long would = 1000 * b.all() / b.sumGrowth;
            if (would < 500 || would > 2000) {
                return NOT_POSSIBLE;
            }
            factor = would;
            return factor;
        }

        long set(int what, int value) {
            int[][] ranges = {{1, 500}, {1, 99}, {-9, 9}};
            if (what < 0 || what > 2 || value < ranges[what][0] || value > ranges[what][1]) {
                return INVALID;
            }
            long was = settings[what];
            settings[what] = value;
            return was;
        }

        long account(int within) {
            if (within < 0 || within >= parents.size()) {
                return INVALID;
            }
            if (parents.size() == 8) {
                return LIMIT;
            }
            parents.add(within);
            booked.add(0L);
            return parents.size() - 1;
        }

        long book(int kind, int account) {
            if (kind < 0 || kind > 3 || account < 0 || account >= parents.size()) {
                return INVALID;
            }
            long was = bookedTo[kind];
            bookedTo[kind] = account;
            return was;
        }

        List<Integer> under(int account) {
            List<Integer> all = new ArrayList<>();
            for (int i = 0; i < parents.size(); i++) {
                if (parents.get(i) == account) {
                    all.add(i);
                    all.addAll(under(i));
                }
            }
            return all;
        }
    }

    private State state = new State();
    private final List<State> history = new ArrayList<>();
    private String text = "";

    // What the latest walk through the text found.
    private long faultAt, faultReason, faultCause, commands;

    private long change(State before, long answer) {
        boolean isError = answer <= -1000001 && answer >= -1000004;
        if (!isError) {
            history.add(before);
            if (history.size() == 5) {
                history.remove(0);
            }
        }
        return answer;
    }

    private State walk() {
        State trial = state.copy();
        faultAt = -1;
        faultReason = 0;
        faultCause = 0;
        commands = 0;
        int at = 0;
        while (at < text.length()) {
            int semicolon = text.indexOf(';', at);
            String word = semicolon < 0 ? "" : text.substring(at, semicolon);
            if (!word.matches("[bsxz]|[gmct][0-9]{1,4}|l[0-9]{1,4},[0-9]{1,4}")) {
                faultAt = at;
                faultReason = 1;
                return trial;
            }
            long answer = doWord(trial, word);
            if (answer < -1000000) {
                faultAt = at;
                faultReason = 2;
                faultCause = answer;
                return trial;
            }
            commands++;
            at = semicolon + 1;
        }
        return trial;
    }

    private static long doWord(State s, String word) {
        String[] numbers = word.substring(1).split(",");
        int a = numbers[0].isEmpty() ? 0 : Integer.parseInt(numbers[0]);
        int b = numbers.length > 1 ? Integer.parseInt(numbers[1]) : 0;
        char letter = word.charAt(0);
        if (letter == 'l') {
            return s.lot(a, b);
        } else if (letter == 'g') {
            return s.gate(a);
        } else if (letter == 'b') {
            return s.bin();
        } else if (letter == 's') {
            return s.run(1);
        } else if (letter == 'x') {
            return s.run(0);
        } else if (letter == 'm') {
            return s.batch(a);
        } else if (letter == 'z') {
            return s.zero();
        } else if (letter == 'c') {
            return s.correct(a);
        }
        return s.tick(a);
    }

    private long accountOf(int account, int what) {
        if (account < 0 || account >= state.parents.size() || what < 0 || what > 4) {
            return INVALID;
        }
        if (what == 0) {
            return account == 0 ? NOT_FOUND : state.parents.get(account);
        }
        if (what == 1) {
            return state.booked.get(account);
        }
        List<Integer> under = state.under(account);
        if (what == 2) {
            long all = state.booked.get(account);
            for (int u : under) {
                all += state.booked.get(u);
            }
            return all;
        }
        if (what == 3) {
            return under.size();
        }
        return account == 0 ? 0 : 1 + accountOf(state.parents.get(account), 4);
    }

    private long scale(int what) {
        long[] all = {state.seen() + state.drift - state.zero + 1000000, state.drift + 1000000,
            state.zero + 1000000, state.sum + 1000000000, state.told() + 1000000000, state.factor, state.stood};
        return what < 0 || what >= all.length ? INVALID : all[what];
    }

    private long count(int what) {
        if (what == 4 && state.bins.isEmpty() || (what == 5 || what == 6) && state.batch == null) {
            return NOT_FOUND;
        }
        long inHopper = 0;
        for (long[] l : state.lots) {
            inHopper += l[1];
        }
        long inBins = 0;
        for (Bin b : state.bins) {
            inBins += b.all();
        }
        long batch = state.batch == null ? 0 : state.batch;
        long[] low = {state.lots.size(), state.gate, state.on, state.bins.size(), state.bins.size() - 1, batch,
            state.feeding ? 0 : 1, state.time, state.onBelt(), inHopper, state.put, inBins,
            state.spiltAtStart + state.spiltAtEnd, state.parents.size(), history.size(), text.length()};
        if (what >= 0 && what < low.length) {
            return low[what];
        }
        if (what >= 20 && what <= 22) {
            return state.settings[what - 20] + (what == 22 ? 10 : 0);
        }
        return what >= 30 && what <= 33 ? state.bookedTo[what - 30] : INVALID;
    }

    private long foretold(boolean mass) {
        if (state.batch == null) {
            return NOT_POSSIBLE;
        }
        State s = state.copy();
        for (int ticks = 1; ticks <= 2000; ticks++) {
            s.oneTick();
            if (s.batch == null) {
                return mass ? s.present().all() : ticks;
            }
        }
        return NOT_FOUND;
    }

    /** Answers what is due for the call with this name. */
    long answer(String call, int a, int b) {
        State before = state.copy();
        switch (call) {
            case "lot": return change(before, state.lot(a, b));
            case "gate": return change(before, state.gate(a));
            case "run": return change(before, state.run(a));
            case "bin": return change(before, state.bin());
            case "batch": return change(before, state.batch(a));
            case "tick": return change(before, state.tick(a));
            case "zero": return change(before, state.zero());
            case "correct": return change(before, state.correct(a));
            case "set": return change(before, state.set(a, b));
            case "account": return change(before, state.account(a));
            case "book": return change(before, state.book(a, b));
            case "accountOf": return accountOf(a, b);
            case "massAt":
                if (a < 0 || a > 11 || b < -1 || b > 3) {
                    return INVALID;
                }
                return b == -1 ? state.at(a) : state.places.get(a)[b];
            case "lotOf":
                if (a < 0 || b < 0 || b > 1) {
                    return INVALID;
                }
                return a >= state.lots.size() ? NOT_FOUND : state.lots.get(a)[b];
            case "binOf":
                if (a < 0 || a >= state.bins.size() || b < 0 || b > 6) {
                    return INVALID;
                }
                Bin bin = state.bins.get(a);
                return b < 4 ? bin.kinds[b] : b == 4 ? bin.all() : b == 5 ? bin.sumGrowth + 1000000000 : bin.filledTicks;
            case "scale": return scale(a);
            case "count": return count(a);
            case "batchIn": return foretold(false);
            case "batchOut": return foretold(true);
            case "error": return state.told() - state.fallen + 1000000000;
            case "undo":
                if (history.isEmpty()) {
                    return NOT_POSSIBLE;
                }
                state = history.remove(history.size() - 1);
                return history.size();
            case "type":
                if (a < 32 || a > 126) {
                    return INVALID;
                }
                if (text.length() == 60) {
                    return LIMIT;
                }
                text += (char) a;
                return text.length();
            case "clearText":
                int length = text.length();
                text = "";
                return length;
            case "fault":
                if (a < 0 || a > 2) {
                    return INVALID;
                }
                walk();
                if (faultReason == 0 || a == 2 && faultReason == 1) {
                    return NOT_FOUND;
                }
                return a == 0 ? faultAt : a == 1 ? faultReason : faultCause;
            case "play":
                State after = walk();
                if (faultReason != 0) {
                    return NOT_POSSIBLE;
                }
                state = after;
                return change(before, commands);
            default: throw new IllegalStateException(call);
        }
    }
}
