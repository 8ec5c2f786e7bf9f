/** Four tapes of signs, one picture of a tape and one watch on a tape. */
public final class Tapebuffer {
    private static final int NONE = -1;
    private static final int REFUSED = -9;
    private static final int TAPES = 4;
    private static final int LONGEST = 200;
    // More than LONGEST: isSound puts a number behind a copy, however long that gets.
    private static final int ROOM = 256;
    private static final int HIGHEST_WORD = 9999;
    // 9999 is below 4 to the power of 7.
    private static final int WORD_DIGITS = 7;
    // No number of 64 binary digits has more of them by 10.
    private static final int LONG_DIGITS = 19;
    private static final int MOST_OFTEN = 20;
    private static final int HIGHEST_SIGN = 255;
    private static final int HIGHEST_OUTER_BLANK = 32;
    private static final int LEAST_BASE = 2;
    private static final int GREATEST_BASE = 36;
    // No part of a tape tells it: what is told has 32 binary digits.
    private static final long NO_NUMBER = 4294967296L;
    private static final int[] DIGEST_WORDS = {1, 6, 27};

    private final Row[] tapes;
    private final Row picture;
    // Made once and used by every call, so that a call makes no rows of its own.
    private final Row coming;
    private final Row spare;
    private int watchedTape;
    private int refusals;
    private int knocks;

    public Tapebuffer() {
        tapes = new Row[TAPES];
        for (int i = 0; i < TAPES; i++) {
            tapes[i] = new Row();
        }
        picture = new Row();
        coming = new Row();
        spare = new Row();
    }

    // ---- behind the end

    public int addWord(int tape, int word) throws IndexOutOfBoundsException, IllegalArgumentException {
        Row row = tapeOf(tape);
        checkWord(word);
        wordComes(word);
        return putAllBehind(row);
    }

    public int addNumber(int tape, int number) throws IndexOutOfBoundsException {
        Row row = tapeOf(tape);
        numberComes(number);
        return putAllBehind(row);
    }

    public int addLong(int tape, int a, int b) throws IndexOutOfBoundsException {
        Row row = tapeOf(tape);
        numberComes(a * 4294967296L + b);
        return putAllBehind(row);
    }

    public int addSign(int tape, int sign) throws IndexOutOfBoundsException, IllegalArgumentException {
        Row row = tapeOf(tape);
        checkSign(sign);
        signComes(sign);
        return putAllBehind(row);
    }

    public int addTruth(int tape, boolean is) throws IndexOutOfBoundsException {
        Row row = tapeOf(tape);
        coming.makeEmpty();
        coming.writeText(is ? "true" : "false");
        return putAllBehind(row);
    }

    public int addRow(int tape, int a, int b, int c) throws IndexOutOfBoundsException, IllegalArgumentException {
        Row row = tapeOf(tape);
        checkSign(a);
        checkSign(b);
        checkSign(c);
        signComes(a);
        coming.writeSign(b);
        coming.writeSign(c);
        return putAllBehind(row);
    }

    public int addTape(int tape, int other) throws IndexOutOfBoundsException {
        Row row = tapeOf(tape);
        coming.becomeLike(tapeOf(other));
        return putAllBehind(row);
    }

    public int addOften(int tape, int word, int often) throws IndexOutOfBoundsException, IllegalArgumentException {
        Row row = tapeOf(tape);
        checkWord(word);
        checkOften(often);
        coming.makeEmpty();
        for (int i = 0; i < often; i++) {
            coming.writeWord(word);
        }
        return putAllBehind(row);
    }

    public int addThree(int tape, int word, int sign, int number) throws IndexOutOfBoundsException, IllegalArgumentException {
        Row row = tapeOf(tape);
        checkWord(word);
        checkSign(sign);
        wordComes(word);
        coming.writeSign(sign);
        coming.writeNumber(number);
        return putAllBehind(row);
    }

    // ---- between

    public int putWord(int tape, int place, int word) throws IndexOutOfBoundsException, IllegalArgumentException {
        Row row = tapeOf(tape);
        checkPlaceOrEnd(row, place);
        checkWord(word);
        wordComes(word);
        return putInPlaceOf(row, place, place);
    }

    public int putNumber(int tape, int place, int number) throws IndexOutOfBoundsException {
        Row row = tapeOf(tape);
        checkPlaceOrEnd(row, place);
        numberComes(number);
        return putInPlaceOf(row, place, place);
    }

    public int putSign(int tape, int place, int sign) throws IndexOutOfBoundsException, IllegalArgumentException {
        Row row = tapeOf(tape);
        checkPlaceOrEnd(row, place);
        checkSign(sign);
        signComes(sign);
        return putInPlaceOf(row, place, place);
    }

    public int putTape(int tape, int place, int other) throws IndexOutOfBoundsException {
        Row row = tapeOf(tape);
        Row source = tapeOf(other);
        checkPlaceOrEnd(row, place);
        coming.becomeLike(source);
        return putInPlaceOf(row, place, place);
    }

    // ---- out, in place of

    public int takeOut(int tape, int from, int to) throws IndexOutOfBoundsException, IllegalArgumentException {
        Row row = tapeOf(tape);
        checkPlaceOrEnd(row, from);
        checkOrder(from, to);
        coming.makeEmpty();
        return putInPlaceOf(row, from, Math.min(to, row.size));
    }

    public int takeSign(int tape, int place) throws IndexOutOfBoundsException {
        Row row = tapeOf(tape);
        checkPlace(row, place);
        int taken = row.signAt(place);
        coming.makeEmpty();
        putInPlaceOf(row, place, place + 1);
        return taken;
    }

    public int exchange(int tape, int from, int to, int word) throws IndexOutOfBoundsException, IllegalArgumentException {
        Row row = tapeOf(tape);
        checkPlaceOrEnd(row, from);
        checkOrder(from, to);
        checkWord(word);
        wordComes(word);
        return putInPlaceOf(row, from, Math.min(to, row.size));
    }

    public int exchangeTape(int tape, int from, int to, int other) throws IndexOutOfBoundsException, IllegalArgumentException {
        Row row = tapeOf(tape);
        Row source = tapeOf(other);
        checkPlaceOrEnd(row, from);
        checkOrder(from, to);
        coming.becomeLike(source);
        return putInPlaceOf(row, from, Math.min(to, row.size));
    }

    public int setSign(int tape, int place, int sign) throws IndexOutOfBoundsException, IllegalArgumentException {
        Row row = tapeOf(tape);
        checkPlace(row, place);
        checkSign(sign);
        int before = row.signAt(place);
        row.changeSign(place, sign);
        return before;
    }

    public int setLength(int tape, int length) throws IndexOutOfBoundsException, IllegalArgumentException {
        Row row = tapeOf(tape);
        checkLength(length);
        int before = row.size;
        row.becomeLong(length);
        return before;
    }

    public int turn(int tape) throws IndexOutOfBoundsException {
        Row row = tapeOf(tape);
        row.turnRound();
        return row.signAt(0);
    }

    public int copy(int tape, int other) throws IndexOutOfBoundsException {
        Row row = tapeOf(tape);
        row.becomeLike(tapeOf(other));
        return row.size;
    }

    public int trim(int tape) throws IndexOutOfBoundsException {
        Row row = tapeOf(tape);
        int before = row.size;
        int end = row.innerEnd();
        row.becomeLong(end);
        coming.makeEmpty();
        putInPlaceOf(row, 0, row.innerStart());
        return before - row.size;
    }

    // ---- pictures, watches

    public int picture(int tape) throws IndexOutOfBoundsException {
        picture.becomeLike(tapeOf(tape));
        return picture.size;
    }

    public int watch(int tape) throws IndexOutOfBoundsException {
        checkTape(tape);
        int before = watchedTape;
        watchedTape = tape;
        return before;
    }

    public int back(int tape) throws IndexOutOfBoundsException {
        Row row = tapeOf(tape);
        row.becomeLike(picture);
        return row.size;
    }

    public int knock() {
        knocks++;
        return knocks;
    }

    // ---- what is asked of a tape

    public int length(int tape) throws IndexOutOfBoundsException {
        return tapeOf(tape).size;
    }

    public int sign(int tape, int place) throws IndexOutOfBoundsException {
        Row row = tapeOf(tape);
        checkPlace(row, place);
        return row.signAt(place);
    }

    public String text(int tape) throws IndexOutOfBoundsException {
        Row row = tapeOf(tape);
        return row.textOf(0, row.size);
    }

    public String part(int tape, int from, int to) throws IndexOutOfBoundsException, IllegalArgumentException {
        Row row = tapeOf(tape);
        checkPart(row, from, to);
        return row.textOf(from, to);
    }

    public String rest(int tape, int from) throws IndexOutOfBoundsException {
        Row row = tapeOf(tape);
        checkPlaceOrEnd(row, from);
        return row.textOf(from, row.size);
    }

    public int find(int tape, int word) throws IndexOutOfBoundsException, IllegalArgumentException {
        return findFrom(tape, word, 0);
    }

    public int findFrom(int tape, int word, int from) throws IndexOutOfBoundsException, IllegalArgumentException {
        Row row = tapeOf(tape);
        checkWord(word);
        wordComes(word);
        return row.firstPlaceOf(coming, from);
    }

    public int findLast(int tape, int word) throws IndexOutOfBoundsException, IllegalArgumentException {
        return findLastFrom(tape, word, LONGEST);
    }

    public int findLastFrom(int tape, int word, int from) throws IndexOutOfBoundsException, IllegalArgumentException {
        Row row = tapeOf(tape);
        checkWord(word);
        wordComes(word);
        return row.lastPlaceOf(coming, from);
    }

    public int findTape(int tape, int other) throws IndexOutOfBoundsException {
        Row row = tapeOf(tape);
        return row.firstPlaceOf(tapeOf(other), 0);
    }

    public int findTapeLast(int tape, int other) throws IndexOutOfBoundsException {
        Row row = tapeOf(tape);
        return row.lastPlaceOf(tapeOf(other), LONGEST);
    }

    public int findSign(int tape, int sign) throws IndexOutOfBoundsException, IllegalArgumentException {
        Row row = tapeOf(tape);
        checkSign(sign);
        signComes(sign);
        return row.firstPlaceOf(coming, 0);
    }

    public boolean has(int tape, int word) throws IndexOutOfBoundsException, IllegalArgumentException {
        return find(tape, word) != NONE;
    }

    public int compare(int tape, int other) throws IndexOutOfBoundsException {
        Row row = tapeOf(tape);
        return row.orderAgainst(tapeOf(other));
    }

    public int apart(int tape, int other) throws IndexOutOfBoundsException {
        Row row = tapeOf(tape);
        return row.differenceFrom(tapeOf(other));
    }

    public boolean isLike(int tape, int other) throws IndexOutOfBoundsException {
        Row row = tapeOf(tape);
        return row.isSameAs(tapeOf(other));
    }

    public int hash(int tape) throws IndexOutOfBoundsException {
        Row row = tapeOf(tape);
        int h = 0;
        for (int i = 0; i < row.size; i++) {
            h = h * 31 + row.signAt(i);
        }
        return h;
    }

    public String number(int tape, int from, int to, int base) throws IndexOutOfBoundsException, IllegalArgumentException {
        Row row = tapeOf(tape);
        checkPart(row, from, to);
        checkBase(base);
        long told = row.readNumber(from, to, base);
        if (told == NO_NUMBER) {
            return "-";
        }
        numberComes(told);
        return coming.textOf(0, coming.size);
    }

    public boolean isBlank(int tape) throws IndexOutOfBoundsException {
        Row row = tapeOf(tape);
        for (int i = 0; i < row.size; i++) {
            if (!isBlankSign(row.signAt(i))) {
                return false;
            }
        }
        return true;
    }

    public String trimmed(int tape) throws IndexOutOfBoundsException {
        Row row = tapeOf(tape);
        int end = row.innerEnd();
        return row.textOf(Math.min(row.innerStart(), end), end);
    }

    // ---- what is asked of pictures, watches, all

    public String seen() {
        return picture.textOf(0, picture.size);
    }

    public int watched(int what) throws IllegalArgumentException {
        if (what < 0 || what > 3) {
            throw new IllegalArgumentException("not asked of the watch");
        }
        Row row = tapeOf(watchedTape);
        switch (what) {
            case 0:
                return watchedTape;
            case 1:
                return row.size;
            case 2:
                return row.signAt(0);
            default:
                return row.signAt(row.size - 1);
        }
    }

    public String word(int word) throws IllegalArgumentException {
        checkWord(word);
        wordComes(word);
        return coming.textOf(0, coming.size);
    }

    public int house(int what) throws IllegalArgumentException {
        if (what < 0 || what > 4) {
            throw new IllegalArgumentException("not asked of the house");
        }
        switch (what) {
            case 0:
                return signsOnAllTapes();
            case 1:
                return emptyTapes();
            case 2:
                return refusals;
            case 3:
                return knocks;
            default:
                return picture.size;
        }
    }

    public boolean isSound() {
        for (int i = 0; i < TAPES; i++) {
            Row row = tapes[i];
            if (!isSameTurnedTwice(row) || !isSameCutAndJoined(row) || !readsNumberBehindCopy(row)) {
                return false;
            }
            for (int j = 0; j < TAPES; j++) {
                if (!standsOneWay(row, tapes[j])) {
                    return false;
                }
            }
        }
        return isWatchLikeItsTape();
    }

    public long digest() {
        long d = 7708;
        for (int what = 0; what <= 4; what++) {
            d = d * 31 + house(what);
        }
        for (int tape = 0; tape < TAPES; tape++) {
            d = digestOfTape(d, tape);
        }
        d = d * 31 + picture.size;
        for (int what = 0; what <= 3; what++) {
            d = d * 31 + watched(what);
        }
        return d * 31 + (isSound() ? 1 : 0);
    }

    // ---- tests of what a caller hands in

    private static void checkTape(int tape) {
        if (tape < 0 || tape >= TAPES) {
            throw new IndexOutOfBoundsException("no such tape");
        }
    }

    private static void checkPlace(Row row, int place) {
        if (place < 0 || place >= row.size) {
            throw new IndexOutOfBoundsException("no such place");
        }
    }

    private static void checkPlaceOrEnd(Row row, int place) {
        if (place < 0 || place > row.size) {
            throw new IndexOutOfBoundsException("neither a place nor the end");
        }
    }

    private static void checkPart(Row row, int from, int to) {
        checkPlaceOrEnd(row, from);
        checkPlaceOrEnd(row, to);
        checkOrder(from, to);
    }

    private static void checkOrder(int from, int to) {
        if (to < from) {
            throw new IllegalArgumentException("the part ends ahead of its start");
        }
    }

    private static void checkWord(int word) {
        if (word < 0 || word > HIGHEST_WORD) {
            throw new IllegalArgumentException("no such word");
        }
    }

    private static void checkSign(int sign) {
        if (sign < 0 || sign > HIGHEST_SIGN) {
            throw new IllegalArgumentException("no such sign");
        }
    }

    private static void checkOften(int often) {
        if (often < 0 || often > MOST_OFTEN) {
            throw new IllegalArgumentException("not so many times");
        }
    }

    private static void checkLength(int length) {
        if (length < 0 || length > LONGEST) {
            throw new IllegalArgumentException("no tape is so long");
        }
    }

    private static void checkBase(int base) {
        if (base < LEAST_BASE || base > GREATEST_BASE) {
            throw new IllegalArgumentException("no such base");
        }
    }

    // ---- what comes, and where

    private Row tapeOf(int tape) {
        checkTape(tape);
        return tapes[tape];
    }

    private void wordComes(int word) {
        coming.makeEmpty();
        coming.writeWord(word);
    }

    private void numberComes(long number) {
        coming.makeEmpty();
        coming.writeNumber(number);
    }

    private void signComes(int sign) {
        coming.makeEmpty();
        coming.writeSign(sign);
    }

    private int putAllBehind(Row row) {
        return putInPlaceOf(row, row.size, row.size);
    }

    private int putInPlaceOf(Row row, int from, int to) {
        if (row.size + coming.size - (to - from) > LONGEST) {
            refusals++;
            return REFUSED;
        }
        row.exchangePart(from, to, coming);
        return row.size;
    }

    // ---- what all tapes tell together

    private int signsOnAllTapes() {
        int sum = 0;
        for (int i = 0; i < TAPES; i++) {
            sum += tapes[i].size;
        }
        return sum;
    }

    private int emptyTapes() {
        int count = 0;
        for (int i = 0; i < TAPES; i++) {
            if (tapes[i].size == 0) {
                count++;
            }
        }
        return count;
    }

    private long digestOfTape(long start, int tape) {
        long d = start * 31 + length(tape);
        d = d * 31 + hash(tape);
        for (int i = 0; i < DIGEST_WORDS.length; i++) {
            d = d * 31 + find(tape, DIGEST_WORDS[i]);
            d = d * 31 + findLast(tape, DIGEST_WORDS[i]);
        }
        for (int other = 0; other < TAPES; other++) {
            d = d * 31 + findTape(tape, other);
            d = d * 31 + compare(tape, other);
        }
        return d * 31 + (isBlank(tape) ? 1 : 0);
    }

    // ---- soundness

    private boolean isSameTurnedTwice(Row row) {
        spare.becomeLike(row);
        spare.turnRound();
        spare.turnRound();
        return spare.isSameAs(row);
    }

    private boolean isSameCutAndJoined(Row row) {
        int middle = row.size / 2;
        coming.becomeLike(row);
        coming.dropAhead(middle);
        spare.becomeLike(row);
        spare.becomeLong(middle);
        spare.exchangePart(middle, middle, coming);
        return spare.isSameAs(row)
            && row.standsAt(row.firstPlaceOf(coming, 0), coming)
            && row.standsAt(row.lastPlaceOf(coming, LONGEST), coming);
    }

    private boolean readsNumberBehindCopy(Row row) {
        int number = row.size * 1000 - 500;
        spare.becomeLike(row);
        spare.writeNumber(number);
        return spare.readNumber(row.size, spare.size, 10) == number;
    }

    private static boolean standsOneWay(Row one, Row other) {
        int order = one.orderAgainst(other);
        boolean alike = one.isSameAs(other);
        return alike == (order == 0) && other.orderAgainst(one) == -order && other.isSameAs(one) == alike;
    }

    private boolean isWatchLikeItsTape() {
        Row row = tapeOf(watchedTape);
        return watched(1) == row.size
            && watched(2) == row.signAt(0)
            && watched(3) == row.signAt(row.size - 1);
    }

    // ---- kinds of signs

    private static boolean isBlankSign(int sign) {
        return sign >= 9 && sign <= 13 || sign >= 28 && sign <= 32;
    }

    /** A row of signs. Its size is 0 to ROOM at all times: what would go beyond that is not done. */
    private static final class Row {
        final int[] signs;
        int size;

        Row() {
            signs = new int[ROOM];
        }

        int signAt(int place) {
            return place >= 0 && place < size ? signs[place] : NONE;
        }

        void changeSign(int place, int sign) {
            if (place >= 0 && place < size) {
                signs[place] = sign;
            }
        }

        void makeEmpty() {
            size = 0;
        }

        void becomeLike(Row other) {
            System.arraycopy(other.signs, 0, signs, 0, other.size);
            size = other.size;
        }

        void becomeLong(int length) {
            if (length < 0 || length > ROOM) {
                return;
            }
            for (int i = size; i < length; i++) {
                signs[i] = 0;
            }
            size = length;
        }

        void dropAhead(int place) {
            if (place < 0 || place > size) {
                return;
            }
            System.arraycopy(signs, place, signs, 0, size - place);
            size -= place;
        }

        void turnRound() {
            turnFrom(0);
        }

        void turnFrom(int first) {
            if (first < 0) {
                return;
            }
            for (int i = first, mirror = size - 1; i < mirror; i++, mirror--) {
                int kept = signs[i];
                signs[i] = signs[mirror];
                signs[mirror] = kept;
            }
        }

        /** The row that comes is another one than this. */
        void exchangePart(int from, int to, Row coming) {
            if (from < 0 || to < from || to > size) {
                return;
            }
            int then = size - (to - from) + coming.size;
            if (then > ROOM) {
                return;
            }
            System.arraycopy(signs, to, signs, from + coming.size, size - to);
            System.arraycopy(coming.signs, 0, signs, from, coming.size);
            size = then;
        }

        void writeSign(int sign) {
            if (size < ROOM) {
                signs[size] = sign;
                size++;
            }
        }

        void writeText(String text) {
            for (int i = 0; i < text.length(); i++) {
                writeSign(text.charAt(i));
            }
        }

        void writeWord(int word) {
            for (int i = WORD_DIGITS - 1; i >= 0; i--) {
                int ahead = word >> 2 * i;
                if (ahead > 0 || i == 0) {
                    writeSign('a' + (ahead & 3));
                }
            }
        }

        void writeNumber(long number) {
            int first = size;
            long left = number;
            for (int i = 0; i < LONG_DIGITS && (i == 0 || left != 0); i++) {
                // The digit is made positive, not the number: the least one has no opposite.
                writeSign('0' + Math.abs((int) (left % 10)));
                left /= 10;
            }
            if (number < 0) {
                writeSign('-');
            }
            turnFrom(first);
        }

        String textOf(int from, int to) {
            if (from < 0 || to < from || to > size) {
                return "";
            }
            char[] letters = new char[to - from];
            for (int i = 0; i < letters.length; i++) {
                letters[i] = (char) signs[from + i];
            }
            return new String(letters);
        }

        boolean standsAt(int place, Row part) {
            if (place < 0 || place > size - part.size) {
                return false;
            }
            for (int i = 0; i < part.size; i++) {
                if (signs[place + i] != part.signs[i]) {
                    return false;
                }
            }
            return true;
        }

        int firstPlaceOf(Row part, int from) {
            int last = size - part.size;
            for (int place = Math.max(from, 0); place <= last; place++) {
                if (standsAt(place, part)) {
                    return place;
                }
            }
            return NONE;
        }

        int lastPlaceOf(Row part, int from) {
            for (int place = Math.min(from, size - part.size); place >= 0; place--) {
                if (standsAt(place, part)) {
                    return place;
                }
            }
            return NONE;
        }

        boolean isSameAs(Row other) {
            return size == other.size && standsAt(0, other);
        }

        int differenceFrom(Row other) {
            int shorter = Math.min(size, other.size);
            for (int i = 0; i < shorter; i++) {
                if (signs[i] != other.signs[i]) {
                    return signs[i] - other.signs[i];
                }
            }
            return size - other.size;
        }

        int orderAgainst(Row other) {
            int difference = differenceFrom(other);
            return difference < 0 ? -1 : difference > 0 ? 1 : 0;
        }

        int innerStart() {
            int start = 0;
            while (start < size && signs[start] <= HIGHEST_OUTER_BLANK) {
                start++;
            }
            return start;
        }

        int innerEnd() {
            int end = size;
            while (end > 0 && signs[end - 1] <= HIGHEST_OUTER_BLANK) {
                end--;
            }
            return end;
        }

        long readNumber(int from, int to, int base) {
            boolean isBelow = from < to && signAt(from) == '-';
            boolean isMarked = isBelow || from < to && signAt(from) == '+';
            int first = isMarked ? from + 1 : from;
            if (first >= to) {
                return NO_NUMBER;
            }
            long most = isBelow ? 2147483648L : 2147483647L;
            long told = 0;
            for (int i = first; i < to; i++) {
                int digit = digitOf(signAt(i));
                if (digit < 0 || digit >= base) {
                    return NO_NUMBER;
                }
                told = told * base + digit;
                if (told > most) {
                    return NO_NUMBER;
                }
            }
            return isBelow ? -told : told;
        }

        static int digitOf(int sign) {
            if (sign >= '0' && sign <= '9') {
                return sign - '0';
            }
            if (sign >= 'a' && sign <= 'z') {
                return sign - 'a' + 10;
            }
            if (sign >= 'A' && sign <= 'Z') {
                return sign - 'A' + 10;
            }
            return NONE;
        }
    }
}
