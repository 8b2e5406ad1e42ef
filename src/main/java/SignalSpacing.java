/** A designer for the signal posts of a railway line. README.md says how to use it. */
public final class SignalSpacing {
    public static final int NONE = -1;
    public static final int BARRED = 1, MISSING = 2, SHORT = 3, LONG = 4, BRAKING = 5;

    private static final int MAX_CELLS = 120;
    private static final int MAX_POSITIONS = MAX_CELLS + 1;
    private static final int MAX_SPEED = 160;
    private static final int SAVED_STATES = 4;
    private static final int MILLISECONDS_PER_HOUR = 3600000;

    // Every row is made here, once: no call makes an object but the exception that it throws.
    private final State state;
    private final History history;
    private final Profile profile;
    private final Survey survey;
    private final Planner planner;

    public SignalSpacing() {
        state = new State();
        history = new History();
        profile = new Profile(state);
        survey = new Survey(state, profile);
        planner = new Planner(state, profile);
    }

    public int setLength(int cells) throws IllegalArgumentException {
        if (!isWithin(cells, 10, MAX_CELLS)) {
            throw new IllegalArgumentException("cells is out of range");
        }
        int previous = state.length;
        save();
        state.layLine(cells);
        return previous;
    }

    public int setLimit(int from, int to, int speed) throws IllegalArgumentException {
        if (!isRange(from, to, state.length - 1) || !isWithin(speed, 20, MAX_SPEED)) {
            throw new IllegalArgumentException("a cell or the speed is out of range");
        }
        save();
        return state.limits.change(from, to, speed);
    }

    public int setGradient(int from, int to, int gradient) throws IllegalArgumentException {
        if (!isRange(from, to, state.length - 1) || !isWithin(gradient, -40, 40)) {
            throw new IllegalArgumentException("a cell or the gradient is out of range");
        }
        save();
        return state.gradients.change(from, to, gradient);
    }

    public int setBarred(int from, int to, boolean barred) throws IllegalArgumentException {
        if (!isRange(from, to, state.length)) {
            throw new IllegalArgumentException("a position is out of range");
        }
        save();
        state.barred.change(from, to, barred ? 1 : 0);
        return state.barredPositions();
    }

    public boolean setRequired(int position, boolean required) throws IllegalArgumentException {
        if (!isWithin(position, 0, state.length)) {
            throw new IllegalArgumentException("there is no such position");
        }
        boolean previous = state.required.at(position) == 1;
        save();
        state.required.put(position, required ? 1 : 0);
        return previous;
    }

    public int setTrain(int rate, int reaction, int length) throws IllegalArgumentException {
        if (!isWithin(rate, 50, 200) || !isWithin(reaction, 0, 100) || !isWithin(length, 1, 20)) {
            throw new IllegalArgumentException("a value of the train is out of range");
        }
        int previous = state.rate;
        save();
        state.rate = rate;
        state.reaction = reaction;
        state.trainLength = length;
        return previous;
    }

    public int setRules(int aspects, int minimum, int maximum) throws IllegalArgumentException {
        if (!isWithin(aspects, 2, 4) || !isWithin(maximum, 1, 120) || !isWithin(minimum, 1, maximum)) {
            throw new IllegalArgumentException("the aspects or a gap is out of range");
        }
        int previous = state.aspects;
        save();
        state.aspects = aspects;
        state.minimum = minimum;
        state.maximum = maximum;
        return previous;
    }

    public int setSight(int sighting, int overlap) throws IllegalArgumentException {
        if (!isWithin(sighting, 0, 40) || !isWithin(overlap, 0, 20)) {
            throw new IllegalArgumentException("the sighting distance or the overlap is out of range");
        }
        int previous = state.sighting;
        save();
        state.sighting = sighting;
        state.overlap = overlap;
        return previous;
    }

    public int limit(int cell) throws IndexOutOfBoundsException {
        if (!isWithin(cell, 0, state.length - 1)) {
            throw new IndexOutOfBoundsException("there is no such cell");
        }
        return state.limits.at(cell);
    }

    public int gradient(int cell) throws IndexOutOfBoundsException {
        if (!isWithin(cell, 0, state.length - 1)) {
            throw new IndexOutOfBoundsException("there is no such cell");
        }
        return state.gradients.at(cell);
    }

    public boolean isBarred(int position) throws IndexOutOfBoundsException {
        if (!isWithin(position, 0, state.length)) {
            throw new IndexOutOfBoundsException("there is no such position");
        }
        return state.barred.at(position) == 1;
    }

    public long energy(int position) throws IndexOutOfBoundsException {
        if (!isWithin(position, 0, state.length)) {
            throw new IndexOutOfBoundsException("there is no such position");
        }
        profile.refresh();
        return profile.energies.at(position);
    }

    public int profileSpeed(int position) throws IndexOutOfBoundsException {
        if (!isWithin(position, 0, state.length)) {
            throw new IndexOutOfBoundsException("there is no such position");
        }
        profile.refresh();
        return profile.speeds.at(position);
    }

    public int brakingDistance(int position) throws IndexOutOfBoundsException {
        if (!isWithin(position, 0, state.length)) {
            throw new IndexOutOfBoundsException("there is no such position");
        }
        profile.refresh();
        return profile.distances.at(position);
    }

    public int travelTime(int from, int to) throws IllegalArgumentException {
        if (!isRange(from, to, state.length)) {
            throw new IllegalArgumentException("a position is out of range");
        }
        profile.refresh();
        return profile.timeBetween(from, to);
    }

    public int addPost(int position) throws IllegalArgumentException, IllegalStateException {
        if (!isWithin(position, 0, state.length)) {
            throw new IllegalArgumentException("there is no such position");
        }
        if (state.hasPost(position)) {
            throw new IllegalStateException("there is a post at this position");
        }
        save();
        return state.insertPost(position);
    }

    public int removePost(int position) throws IllegalArgumentException, IllegalStateException {
        if (!isWithin(position, 0, state.length)) {
            throw new IllegalArgumentException("there is no such position");
        }
        if (!state.hasPost(position)) {
            throw new IllegalStateException("there is no post at this position");
        }
        save();
        state.takePost(position);
        return state.postCount;
    }

    public int clearPosts() {
        int previous = state.postCount;
        save();
        state.postCount = 0;
        return previous;
    }

    public int posts() {
        return state.postCount;
    }

    public int post(int index) throws IndexOutOfBoundsException {
        if (!isWithin(index, 0, state.postCount - 1)) {
            throw new IndexOutOfBoundsException("there is no such post");
        }
        return state.posts.at(index);
    }

    public int violationCount() {
        profile.refresh();
        return survey.inspect();
    }

    public int violation(int index) throws IndexOutOfBoundsException {
        profile.refresh();
        if (!isWithin(index, 0, survey.inspect() - 1)) {
            throw new IndexOutOfBoundsException("there is no such violation");
        }
        return survey.found.at(index);
    }

    public int fewestPosts() {
        profile.refresh();
        return planner.plan();
    }

    public int design() throws IllegalStateException {
        profile.refresh();
        int count = planner.plan();
        if (count == NONE) {
            throw new IllegalStateException("there is no valid layout");
        }
        save();
        state.posts.copy(planner.best);
        state.postCount = count;
        return count;
    }

    public int blockTime(int index) throws IndexOutOfBoundsException {
        if (!isWithin(index, 0, state.postCount - 1)) {
            throw new IndexOutOfBoundsException("there is no such post");
        }
        profile.refresh();
        return profile.blockTimeOf(index);
    }

    public int headway() {
        profile.refresh();
        return profile.greatestBlockTime();
    }

    public int capacity() throws IllegalStateException {
        profile.refresh();
        int greatest = profile.greatestBlockTime();
        if (greatest <= 0) {
            throw new IllegalStateException("no post has a block time");
        }
        return MILLISECONDS_PER_HOUR / greatest;
    }

    public int undo() throws IllegalStateException {
        if (history.count == 0) {
            throw new IllegalStateException("the undo stack is empty");
        }
        history.pop(state);
        profile.outdate();
        return history.count;
    }

    public long digest() {
        profile.refresh();
        long hash = mixSettings(12211);
        hash = mixLine(hash);
        hash = mixPosts(hash);
        hash = mix(hash, profile.greatestBlockTime());
        return mix(hash, profile.timeBetween(0, state.length));
    }

    private long mixSettings(long start) {
        long hash = mix(start, history.count);
        hash = mix(hash, state.length);
        hash = mix(hash, state.rate);
        hash = mix(hash, state.reaction);
        hash = mix(hash, state.trainLength);
        hash = mix(hash, state.aspects);
        hash = mix(hash, state.minimum);
        hash = mix(hash, state.maximum);
        hash = mix(hash, state.sighting);
        return mix(hash, state.overlap);
    }

    private long mixLine(long start) {
        long hash = start;
        for (int cell = 0; cell < state.length; cell++) {
            hash = mix(hash, state.limits.at(cell));
            hash = mix(hash, state.gradients.at(cell));
        }
        for (int position = 0; position <= state.length; position++) {
            hash = mix(hash, state.barred.at(position));
            hash = mix(hash, state.required.at(position));
            hash = mix(hash, profile.energies.at(position));
            hash = mix(hash, profile.distances.at(position));
        }
        return hash;
    }

    private long mixPosts(long start) {
        long hash = mix(start, state.postCount);
        for (int index = 0; index < state.postCount; index++) {
            hash = mix(hash, state.posts.at(index));
        }
        int count = survey.inspect();
        hash = mix(hash, count);
        for (int index = 0; index < count; index++) {
            hash = mix(hash, survey.found.at(index));
        }
        return hash;
    }

    private static long mix(long hash, long value) {
        return 31 * hash + value;
    }

    // Each undoable call comes here once, after its last exception and before its first change:
    // so this is also where the profile learns that it will be out of date.
    private void save() {
        history.push(state);
        profile.outdate();
    }

    private static boolean isWithin(int value, int least, int most) {
        return value >= least && value <= most;
    }

    private static boolean isRange(int from, int to, int last) {
        return from >= 0 && from <= to && to <= last;
    }

    /** Numbers by place. A place outside reads 0 and takes nothing, so that no index can fail. */
    private static final class Row {
        private final int[] numbers;

        Row(int size) {
            numbers = new int[size < 0 ? 0 : size];
        }

        int at(int place) {
            return place >= 0 && place < numbers.length ? numbers[place] : 0;
        }

        void put(int place, int number) {
            if (place >= 0 && place < numbers.length) {
                numbers[place] = number;
            }
        }

        /** Answers how many of the places held another number before. */
        int change(int from, int to, int number) {
            int changed = 0;
            for (int place = Math.max(from, 0); place <= to && place < numbers.length; place++) {
                if (numbers[place] != number) {
                    numbers[place] = number;
                    changed++;
                }
            }
            return changed;
        }

        void fill(int number) {
            for (int place = 0; place < numbers.length; place++) {
                numbers[place] = number;
            }
        }

        void copy(Row other) {
            for (int place = 0; place < numbers.length && place < other.numbers.length; place++) {
                numbers[place] = other.numbers[place];
            }
        }
    }

    /** All that an undo brings back: the line, the train, the rules and the posts. */
    private static final class State {
        final Row limits = new Row(MAX_CELLS);
        final Row gradients = new Row(MAX_CELLS);
        final Row barred = new Row(MAX_POSITIONS);
        final Row required = new Row(MAX_POSITIONS);
        // The positions of the posts, rising; only the first postCount places count.
        final Row posts = new Row(MAX_POSITIONS);
        int postCount;
        int length;
        int rate = 80;
        int reaction = 20;
        int trainLength = 4;
        int aspects = 3;
        int minimum = 4;
        int maximum = 40;
        int sighting = 6;
        int overlap = 1;

        State() {
            layLine(60);
        }

        void layLine(int cells) {
            length = cells;
            limits.fill(80);
            gradients.fill(0);
            barred.fill(0);
            required.fill(0);
            postCount = 0;
        }

        void copy(State other) {
            limits.copy(other.limits);
            gradients.copy(other.gradients);
            barred.copy(other.barred);
            required.copy(other.required);
            posts.copy(other.posts);
            postCount = other.postCount;
            length = other.length;
            rate = other.rate;
            reaction = other.reaction;
            trainLength = other.trainLength;
            aspects = other.aspects;
            minimum = other.minimum;
            maximum = other.maximum;
            sighting = other.sighting;
            overlap = other.overlap;
        }

        int barredPositions() {
            int count = 0;
            for (int position = 0; position <= length; position++) {
                count += barred.at(position);
            }
            return count;
        }

        boolean needsPost(int position) {
            return position == 0 || position == length || required.at(position) == 1;
        }

        /** The place in the row of posts at which a post at this position stands or would stand. */
        int placeOf(int position) {
            int place = 0;
            while (place < postCount && posts.at(place) < position) {
                place++;
            }
            return place;
        }

        boolean hasPost(int position) {
            int place = placeOf(position);
            return place < postCount && posts.at(place) == position;
        }

        int insertPost(int position) {
            int index = placeOf(position);
            for (int place = postCount; place > index; place--) {
                posts.put(place, posts.at(place - 1));
            }
            posts.put(index, position);
            postCount++;
            return index;
        }

        void takePost(int position) {
            postCount--;
            for (int place = placeOf(position); place < postCount; place++) {
                posts.put(place, posts.at(place + 1));
            }
        }
    }

    /** The latest saved states, in a ring of slots that are used again. */
    private static final class History {
        private final State[] slots = new State[SAVED_STATES];
        private int latest;
        int count;

        History() {
            for (int place = 0; place < slots.length; place++) {
                slots[place] = new State();
            }
        }

        void push(State state) {
            latest = latest + 1 < SAVED_STATES ? latest + 1 : 0;
            State slot = latestSlot();
            if (slot != null) {
                slot.copy(state);
                count = Math.min(count + 1, SAVED_STATES);
            }
        }

        void pop(State state) {
            State slot = latestSlot();
            if (slot != null && count > 0) {
                state.copy(slot);
                count--;
                latest = latest > 0 ? latest - 1 : SAVED_STATES - 1;
            }
        }

        private State latestSlot() {
            return latest >= 0 && latest < slots.length ? slots[latest] : null;
        }
    }

    /** What follows from the line and the train: energies, speeds, braking distances and times. */
    private static final class Profile {
        // 198 cells stop the fastest train on the steepest slope: this only shows that the count ends.
        private static final int MAX_BRAKING_CELLS = 1000;
        private static final int MILLISECONDS_PER_CELL_AT_ONE = 180000;
        private static final int REACTION_UNITS_PER_CELL = 1800;

        private final State state;
        final Row energies = new Row(MAX_POSITIONS);
        final Row speeds = new Row(MAX_POSITIONS);
        final Row distances = new Row(MAX_POSITIONS);
        // The travel time from position 0 to each position.
        private final Row times = new Row(MAX_POSITIONS);
        private boolean isFresh;

        Profile(State state) {
            this.state = state;
        }

        void outdate() {
            isFresh = false;
        }

        void refresh() {
            if (isFresh) {
                return;
            }
            computeEnergies();
            computeSpeeds();
            computeDistances();
            computeTimes();
            isFresh = true;
        }

        private void computeEnergies() {
            int energy = greatestEnergy(state.length - 1);
            energies.put(state.length, energy);
            for (int cell = state.length - 1; cell >= 0; cell--) {
                energy = Math.min(greatestEnergy(cell), energy + energyLost(cell));
                energies.put(cell, energy);
            }
        }

        private int greatestEnergy(int cell) {
            return energyOf(state.limits.at(cell));
        }

        private static int energyOf(int speed) {
            return 125 * speed * speed;
        }

        /** Behind the line the last cell goes on. */
        private int energyLost(int cell) {
            int gradient = state.gradients.at(Math.min(cell, state.length - 1));
            return 162 * (10 * state.rate + 10 * gradient);
        }

        private void computeSpeeds() {
            for (int position = 0; position <= state.length; position++) {
                speeds.put(position, speedWith(energies.at(position)));
            }
        }

        private static int speedWith(int energy) {
            int speed = 0;
            for (int bit = 7; bit >= 0; bit--) {
                int faster = speed + (1 << bit);
                if (energyOf(faster) <= energy) {
                    speed = faster;
                }
            }
            return speed;
        }

        private void computeDistances() {
            for (int position = 0; position <= state.length; position++) {
                int reaction = roundUp(speeds.at(position) * state.reaction, REACTION_UNITS_PER_CELL);
                int braking = brakingCells(position + reaction, energies.at(position));
                distances.put(position, reaction + braking);
            }
        }

        private int brakingCells(int from, int energy) {
            int lost = 0;
            int cells = 0;
            while (lost < energy && cells < MAX_BRAKING_CELLS) {
                lost += energyLost(from + cells);
                cells++;
            }
            return cells;
        }

        private void computeTimes() {
            int time = 0;
            times.put(0, time);
            for (int cell = 0; cell < state.length; cell++) {
                time += roundUp(MILLISECONDS_PER_CELL_AT_ONE, speeds.at(cell));
                times.put(cell + 1, time);
            }
        }

        private static int roundUp(int dividend, int divisor) {
            return divisor > 0 ? (dividend + divisor - 1) / divisor : 0;
        }

        int timeBetween(int from, int to) {
            return times.at(to) - times.at(from);
        }

        int sightOf(int position) {
            return position > state.sighting ? position - state.sighting : 0;
        }

        /** With two aspects the driver brakes only on seeing the post itself. */
        boolean stopsInSight(int position) {
            int sight = sightOf(position);
            return distances.at(sight) <= position - sight;
        }

        int blockTimeOf(int index) {
            int end = index + state.aspects - 1;
            if (end >= state.postCount) {
                return NONE;
            }
            int clear = state.posts.at(end) + state.overlap + state.trainLength;
            return timeBetween(sightOf(state.posts.at(index)), Math.min(state.length, clear));
        }

        int greatestBlockTime() {
            int greatest = NONE;
            for (int index = 0; index < state.postCount; index++) {
                greatest = Math.max(greatest, blockTimeOf(index));
            }
            return greatest;
        }
    }

    /** The violations of the present layout. */
    private static final class Survey {
        // A position has three at most: BARRED, one of SHORT and LONG, and BRAKING.
        private static final int MAX_FOUND = 3 * MAX_POSITIONS;

        private final State state;
        private final Profile profile;
        final Row found = new Row(MAX_FOUND);
        private int count;

        Survey(State state, Profile profile) {
            this.state = state;
            this.profile = profile;
        }

        /** Answers how many there are; found holds them, in order, until the next change. */
        int inspect() {
            count = 0;
            int index = 0;
            for (int position = 0; position <= state.length; position++) {
                if (index < state.postCount && state.posts.at(index) == position) {
                    inspectPost(index, position);
                    index++;
                } else {
                    note(state.needsPost(position), MISSING, position);
                }
            }
            return count;
        }

        private void inspectPost(int index, int position) {
            note(state.barred.at(position) == 1, BARRED, position);
            if (index > 0) {
                int gap = position - state.posts.at(index - 1);
                note(gap < state.minimum, SHORT, position);
                note(gap > state.maximum, LONG, position);
            }
            note(brakesTooLate(index, position), BRAKING, position);
        }

        private boolean brakesTooLate(int index, int position) {
            if (state.aspects == 2) {
                return index > 0 && !profile.stopsInSight(position);
            }
            int end = index + state.aspects - 2;
            return end < state.postCount
                && state.posts.at(end) - position < profile.distances.at(position);
        }

        private void note(boolean holds, int kind, int position) {
            if (holds) {
                found.put(count, 1000 * kind + position);
                count++;
            }
        }
    }

    /**
     * The best layout. What may follow a post depends on the posts before it only by the earliest
     * position that the braking rule leaves to the next one: so the least number of posts behind a
     * post is kept for each post and each such position, and found from the end of the line on.
     */
    private static final class Planner {
        // Stands for 'there is no way': far above the posts of any line.
        private static final int NEVER = 1000;

        private final State state;
        private final Profile profile;
        private final Row open = new Row(MAX_POSITIONS);
        private final Row fewest = new Row(MAX_CELLS * MAX_POSITIONS);
        final Row best = new Row(MAX_POSITIONS);

        Planner(State state, Profile profile) {
            this.state = state;
            this.profile = profile;
        }

        /** Answers the number of posts, or NONE; best holds their positions until the next plan. */
        int plan() {
            markOpen();
            for (int post = state.length - 1; post >= 0; post--) {
                weigh(post);
            }
            int count = 1 + fewestBehind(0, earliestBehind(NONE, 0));
            if (count > NEVER || state.barred.at(0) == 1) {
                return NONE;
            }
            trace(count);
            return count;
        }

        /** Where a post may stand behind the first one, whatever posts there are before it. */
        private void markOpen() {
            for (int position = 1; position <= state.length; position++) {
                boolean brakes = state.aspects != 2 || profile.stopsInSight(position);
                open.put(position, brakes && state.barred.at(position) == 0 ? 1 : 0);
            }
        }

        private void weigh(int post) {
            int last = lastBehind(post);
            int least = NEVER;
            for (int next = state.length; next > post; next--) {
                if (next <= last) {
                    least = Math.min(least, fewestThrough(post, next));
                }
                fewest.put(post * MAX_POSITIONS + next, least);
            }
        }

        /** The posts behind this one, if the next one stands at this position. */
        private int fewestThrough(int post, int next) {
            if (next - post < state.minimum || open.at(next) == 0) {
                return NEVER;
            }
            if (next == state.length) {
                return 1;
            }
            return Math.min(NEVER, 1 + fewestBehind(next, earliestBehind(post, next)));
        }

        private int fewestBehind(int post, int earliest) {
            if (earliest > state.length) {
                return NEVER;
            }
            return fewest.at(post * MAX_POSITIONS + Math.max(earliest, post + 1));
        }

        /** Where the braking rule lets the next post stand, given the last two (or NONE and one). */
        private int earliestBehind(int before, int post) {
            if (state.aspects == 3) {
                return post + profile.distances.at(post);
            }
            if (state.aspects == 4 && before != NONE) {
                return before + profile.distances.at(before);
            }
            return 0;
        }

        /** The next post stands no farther than the maximum gap and the next position in need of one. */
        private int lastBehind(int post) {
            int farthest = Math.min(post + state.maximum, state.length);
            int position = post + 1;
            while (position < farthest && !state.needsPost(position)) {
                position++;
            }
            return position;
        }

        // The first position that keeps the count is the lexicographically first one.
        private void trace(int count) {
            int before = NONE;
            int post = 0;
            best.put(0, post);
            for (int index = 1; index < count; index++) {
                int next = firstBehind(post, earliestBehind(before, post));
                before = post;
                post = next;
                best.put(index, post);
            }
        }

        private int firstBehind(int post, int earliest) {
            int count = fewestBehind(post, earliest);
            int last = lastBehind(post);
            int next = Math.max(earliest, post + 1);
            while (next < last && fewestThrough(post, next) != count) {
                next++;
            }
            return next;
        }
    }
}
