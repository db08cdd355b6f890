import java.util.ArrayList;
import java.util.Comparator;
import java.util.HashSet;
import java.util.List;
import java.util.Map;
import java.util.NoSuchElementException;
import java.util.Set;
import java.util.TreeMap;
import java.util.function.Function;

/** The reef once more, written apart from the program and as plainly as can be, for the model tests. */
final class PlainReef {
    /** A living button, or a bleached one, whose colour is '#'. */
    private record Button(char colour, int age) {
        boolean lives() {
            return colour != '#';
        }
    }

    private record Totals(int tides, int placed, int removed, int born, int bleachings, int washed) {
        Totals plus(int morePlaced, int moreRemoved, int moreBleachings) {
            return new Totals(tides, placed + morePlaced, removed + moreRemoved, born, bleachings + moreBleachings,
                washed);
        }
    }

    private record Data(Map<Integer, Button> buttons, char rule, Totals totals) {
        long living() {
            return buttons.values().stream().filter(Button::lives).count();
        }

        long bleached() {
            return buttons.size() - living();
        }
    }

    private static final Map<Character, String> BIRTHS = Map.of('c', "3", 'b', "36", 's', "3");
    private static final Map<Character, String> SURVIVALS = Map.of('c', "23", 'b', "23", 's', "12345");
    private static final Map<Character, String> WORDS = Map.of('c', "calm", 'b', "busy", 's', "slow");
    private static final Map<Character, int[][]> PATTERNS = Map.of(
        'q', new int[][] {{0, 0}, {0, 1}, {1, 0}, {1, 1}},
        'l', new int[][] {{0, 0}, {0, 1}, {0, 2}},
        'x', new int[][] {{0, 1}, {1, 0}, {1, 1}, {1, 2}, {2, 1}},
        'g', new int[][] {{0, 1}, {1, 2}, {2, 0}, {2, 1}, {2, 2}});

    private Data now = new Data(new TreeMap<>(), 'c', new Totals(0, 0, 0, 0, 0, 0));
    private Data saved = null;
    private final List<Data> past = new ArrayList<>();
    private String input = "";
    private String output = "";
    private Integer offset = null;
    private Integer reason = null;
    private Integer detail = null;
    private Integer cause = null;

    // ---- changes

    /** The new data and what the call answers. */
    private record Change(Data data, Object answer) {
    }

    /** Why a call is rejected. */
    private static final class Rejection extends RuntimeException {
        private static final long serialVersionUID = 1L;
        final int reason;
        final long detail;

        Rejection(int reason, long detail) {
            this.reason = reason;
            this.detail = detail;
        }
    }

    private Object make(Function<Data, Change> call) {
        try {
            Change change = call.apply(now);
            past.add(now);
            now = change.data();
            return change.answer();
        } catch (Rejection rejection) {
            reject(rejection.reason, rejection.detail, null);
            throw new UnsupportedOperationException();
        }
    }

    private void reject(int newReason, long newDetail, Integer newCause) {
        reason = newReason;
        detail = (int) newDetail;
        cause = newCause;
    }

    Object place(int row, int column, char colour) {
        return make(data -> place(data, row, column, colour));
    }

    Object remove(int row, int column) {
        return make(data -> remove(data, row, column));
    }

    Object bleach(int row, int column) {
        return make(data -> bleach(data, row, column));
    }

    Object recolour(int row, int column, char colour) {
        return make(data -> recolour(data, row, column, colour));
    }

    Object plant(int row, int column, char pattern, char colour) {
        return make(data -> plant(data, row, column, pattern, colour));
    }

    Object setRule(char rule) {
        return make(data -> setRule(data, rule));
    }

    Object passTides(int tides) {
        return make(data -> passTides(data, tides));
    }

    private static Change place(Data data, int row, int column, char colour) {
        int cell = cell(row, column);
        colour(colour);
        if (data.buttons().containsKey(cell)) {
            throw new Rejection(1, cell);
        }
        Data after = with(data, cell, new Button(colour, 0), data.totals().plus(1, 0, 0));
        return new Change(after, (int) after.living());
    }

    private static Change remove(Data data, int row, int column) {
        int cell = cell(row, column);
        if (!data.buttons().containsKey(cell)) {
            throw new Rejection(2, cell);
        }
        Data after = with(data, cell, null, data.totals().plus(0, 1, 0));
        return new Change(after, (int) after.living());
    }

    private static Change bleach(Data data, int row, int column) {
        int cell = cell(row, column);
        Button button = living(data, cell);
        return new Change(with(data, cell, new Button('#', 0), data.totals().plus(0, 0, 1)), button.age());
    }

    private static Change recolour(Data data, int row, int column, char colour) {
        int cell = cell(row, column);
        colour(colour);
        Button button = living(data, cell);
        return new Change(with(data, cell, new Button(colour, button.age()), data.totals()), button.colour());
    }

    private static Button living(Data data, int cell) {
        Button button = data.buttons().get(cell);
        if (button == null) {
            throw new Rejection(2, cell);
        }
        if (!button.lives()) {
            throw new Rejection(3, data.bleached());
        }
        return button;
    }

    private static Change plant(Data data, int row, int column, char pattern, char colour) {
        cell(row, column);
        if (!PATTERNS.containsKey(pattern)) {
            throw new IllegalArgumentException();
        }
        colour(colour);
        Map<Integer, Button> buttons = new TreeMap<>(data.buttons());
        Integer taken = null;
        int[][] shape = PATTERNS.get(pattern);
        for (int[] distance : shape) {
            if (row + distance[0] > 7 || column + distance[1] > 7) {
                throw new Rejection(4, shape.length);
            }
            int cell = cell(row + distance[0], column + distance[1]);
            if (buttons.put(cell, new Button(colour, 0)) != null) {
                taken = taken == null ? cell : Math.min(taken, cell);
            }
        }
        if (taken != null) {
            throw new Rejection(1, taken);
        }
        return new Change(new Data(buttons, data.rule(), data.totals().plus(shape.length, 0, 0)), shape.length);
    }

    private static Change setRule(Data data, char rule) {
        if (!WORDS.containsKey(rule)) {
            throw new IllegalArgumentException();
        }
        if (rule == data.rule()) {
            throw new Rejection(5, data.totals().tides());
        }
        return new Change(new Data(data.buttons(), rule, data.totals()), data.rule());
    }

    private static Change passTides(Data data, int tides) {
        if (tides < 1 || tides > 20) {
            throw new IllegalArgumentException();
        }
        Data after = afterTides(data, tides);
        return new Change(after, after.totals().born() - data.totals().born());
    }

    private static Data afterTides(Data data, int tides) {
        Data after = data;
        for (int i = 0; i < tides; i++) {
            after = afterTide(after);
        }
        return after;
    }

    private static Data afterTide(Data data) {
        Map<Integer, Button> buttons = new TreeMap<>();
        int born = 0;
        int bleachings = 0;
        int washed = 0;
        for (int cell = 0; cell < 64; cell++) {
            Button button = data.buttons().get(cell);
            String living = String.valueOf(neighbours(data, cell, "abcd"));
            if (button == null && BIRTHS.get(data.rule()).contains(living)) {
                buttons.put(cell, new Button(birthColour(data, cell), 0));
                born++;
            } else if (button != null && button.lives()) {
                boolean survives = SURVIVALS.get(data.rule()).contains(living);
                buttons.put(cell, survives ? new Button(button.colour(), Math.min(9, button.age() + 1))
                    : new Button('#', 0));
                bleachings += survives ? 0 : 1;
            } else if (button != null && living.equals("0")) {
                washed++;
            } else if (button != null) {
                buttons.put(cell, button);
            }
        }
        Totals totals = data.totals();
        return new Data(buttons, data.rule(), new Totals(totals.tides() + 1, totals.placed(), totals.removed(),
            totals.born() + born, totals.bleachings() + bleachings, totals.washed() + washed));
    }

    private static Data with(Data data, int cell, Button button, Totals totals) {
        Map<Integer, Button> buttons = new TreeMap<>(data.buttons());
        if (button == null) {
            buttons.remove(cell);
        } else {
            buttons.put(cell, button);
        }
        return new Data(buttons, data.rule(), totals);
    }

    private static int cell(int row, int column) {
        if (row < 0 || row > 7 || column < 0 || column > 7) {
            throw new IndexOutOfBoundsException();
        }
        return 8 * row + column;
    }

    private static char colour(char colour) {
        if ("abcd".indexOf(colour) < 0) {
            throw new IllegalArgumentException();
        }
        return colour;
    }

    // ---- questions about cells

    private static int neighbours(Data data, int cell, String colours) {
        int count = 0;
        for (Map.Entry<Integer, Button> entry : data.buttons().entrySet()) {
            int down = Math.abs(entry.getKey() / 8 - cell / 8);
            int right = Math.abs(entry.getKey() % 8 - cell % 8);
            if (Math.max(down, right) == 1 && colours.indexOf(entry.getValue().colour()) >= 0) {
                count++;
            }
        }
        return count;
    }

    private static char birthColour(Data data, int cell) {
        if (neighbours(data, cell, "abcd") == 0) {
            throw new NoSuchElementException();
        }
        char best = 'd';
        for (char colour : "cba".toCharArray()) {
            if (neighbours(data, cell, "" + colour) >= neighbours(data, cell, "" + best)) {
                best = colour;
            }
        }
        return best;
    }

    private Button livingAt(int row, int column) {
        Button button = now.buttons().get(cell(row, column));
        if (button == null || !button.lives()) {
            throw new NoSuchElementException();
        }
        return button;
    }

    Object isEmpty(int row, int column) {
        return !now.buttons().containsKey(cell(row, column));
    }

    Object isLiving(int row, int column) {
        Button button = now.buttons().get(cell(row, column));
        return button != null && button.lives();
    }

    Object isBleached(int row, int column) {
        Button button = now.buttons().get(cell(row, column));
        return button != null && !button.lives();
    }

    Object colourAt(int row, int column) {
        return livingAt(row, column).colour();
    }

    Object ageAt(int row, int column) {
        return livingAt(row, column).age();
    }

    Object neighbours(int row, int column) {
        return neighbours(now, cell(row, column), "abcd");
    }

    Object neighboursOf(int row, int column, char colour) {
        int cell = cell(row, column);
        return neighbours(now, cell, "" + colour(colour));
    }

    Object birthColour(int row, int column) {
        return birthColour(now, cell(row, column));
    }

    Object livingCount() {
        return (int) now.living();
    }

    Object bleachedCount() {
        return (int) now.bleached();
    }

    Object countOf(char colour) {
        return counts(colour(colour));
    }

    private int counts(char colour) {
        return (int) now.buttons().values().stream().filter(button -> button.colour() == colour).count();
    }

    // ---- islands

    /** Grows each island until it grows no more. */
    private List<Set<Integer>> islands(String colours) {
        Set<Integer> left = new HashSet<>();
        now.buttons().forEach((cell, button) -> {
            if (colours.indexOf(button.colour()) >= 0) {
                left.add(cell);
            }
        });
        List<Set<Integer>> islands = new ArrayList<>();
        while (!left.isEmpty()) {
            Set<Integer> island = new HashSet<>();
            island.add(left.iterator().next());
            int before = 0;
            while (island.size() > before) {
                before = island.size();
                for (int cell : left) {
                    if (island.stream().anyMatch(
                        other -> Math.abs(other / 8 - cell / 8) + Math.abs(other % 8 - cell % 8) == 1)) {
                        island.add(cell);
                    }
                }
            }
            left.removeAll(island);
            islands.add(island);
        }
        return islands;
    }

    Object islandCount() {
        return islands("abcd").size();
    }

    Object islandSize(int row, int column) {
        livingAt(row, column);
        return islands("abcd").stream().filter(island -> island.contains(cell(row, column))).findFirst().get().size();
    }

    Object largestIsland() {
        return islands("abcd").stream().mapToInt(Set::size).max().orElse(0);
    }

    Object islandsOf(char colour) {
        return islands("" + colour(colour)).size();
    }

    Object isJoined(int row, int column, int otherRow, int otherColumn) {
        int cell = cell(row, column);
        int other = cell(otherRow, otherColumn);
        return islands("abcd").stream().anyMatch(island -> island.contains(cell) && island.contains(other));
    }

    // ---- tides

    Object wouldLive(int row, int column) {
        Button button = afterTide(now).buttons().get(cell(row, column));
        return button != null && button.lives();
    }

    Object livingAfter(int tides) {
        if (tides < 0 || tides > 20) {
            throw new IllegalArgumentException();
        }
        return (int) afterTides(now, tides).living();
    }

    private static boolean isStill(Data data) {
        Totals before = data.totals();
        Totals after = afterTide(data).totals();
        return before.born() == after.born() && before.bleachings() == after.bleachings()
            && before.washed() == after.washed();
    }

    Object isStill() {
        return isStill(now);
    }

    Object tidesUntilStill() {
        for (int tides = 0; tides <= 40; tides++) {
            if (isStill(afterTides(now, tides))) {
                return tides;
            }
        }
        throw new NoSuchElementException();
    }

    Object rule() {
        return now.rule();
    }

    Object isBirth(int neighbours) {
        return contains(BIRTHS.get(now.rule()), neighbours);
    }

    Object isSurvival(int neighbours) {
        return contains(SURVIVALS.get(now.rule()), neighbours);
    }

    private static boolean contains(String numbers, int number) {
        if (number < 0 || number > 8) {
            throw new IllegalArgumentException();
        }
        return numbers.contains("" + number);
    }

    // ---- totals and orders

    List<Integer> totals() {
        Totals t = now.totals();
        return List.of(t.tides(), t.placed(), t.removed(), t.born(), t.bleachings(), t.washed());
    }

    Object rowByLiving(int position) {
        if (position < 0 || position > 7) {
            throw new NoSuchElementException();
        }
        List<Integer> rows = new ArrayList<>(List.of(0, 1, 2, 3, 4, 5, 6, 7));
        rows.sort(Comparator.comparing((Integer row) -> -inRow(row, true)).thenComparing(row -> -inRow(row, false)));
        return rows.get(position);
    }

    private long inRow(int row, boolean living) {
        return now.buttons().entrySet().stream()
            .filter(entry -> entry.getKey() / 8 == row && entry.getValue().lives() == living).count();
    }

    Object colourByCount(int position) {
        if (position < 0 || position > 3) {
            throw new NoSuchElementException();
        }
        List<Character> colours = new ArrayList<>(List.of('a', 'b', 'c', 'd'));
        colours.sort(Comparator.comparing((Character colour) -> -counts(colour)));
        return colours.get(position);
    }

    Object meanAge() {
        if (now.living() == 0) {
            throw new ArithmeticException();
        }
        return (double) now.buttons().values().stream().mapToInt(Button::age).sum() / (double) now.living();
    }

    Object livingShare() {
        if (now.buttons().isEmpty()) {
            throw new ArithmeticException();
        }
        return (float) now.living() / (float) now.buttons().size();
    }

    // ---- text

    Object writeRow(int row) {
        cell(row, 0);
        output = "";
        for (int column = 0; column < 8; column++) {
            Button button = now.buttons().get(cell(row, column));
            String sign = button == null ? "." : "" + button.colour();
            output += button != null && button.age() >= 5 ? sign.toUpperCase() : sign;
        }
        return 8;
    }

    Object writeRule() {
        output = WORDS.get(now.rule()) + " b" + BIRTHS.get(now.rule()) + "/s" + SURVIVALS.get(now.rule());
        return output.length();
    }

    Object outputAt(int index) {
        if (index < 0 || index >= output.length()) {
            throw new IndexOutOfBoundsException();
        }
        return output.charAt(index);
    }

    Object appendInput(char character) {
        if (character < ' ' || character > '~') {
            throw new IllegalArgumentException();
        }
        if (input.length() == 60) {
            throw new IllegalStateException();
        }
        input += character;
        return input.length();
    }

    Object execute() {
        String text = input;
        input = "";
        int error = PlainCommands.errorOffset(text);
        if (error >= 0) {
            offset = error;
            throw new IllegalArgumentException();
        }
        Data data = now;
        String[] commands = text.split(";");
        for (int number = 0; number < commands.length; number++) {
            try {
                data = obey(data, commands[number]);
            } catch (Rejection rejection) {
                reject(6, number, rejection.reason);
                throw new UnsupportedOperationException();
            } catch (IndexOutOfBoundsException | IllegalArgumentException e) {
                throw new IllegalStateException();
            }
        }
        past.add(now);
        now = data;
        return commands.length;
    }

    private static Data obey(Data data, String command) {
        String[] words = command.split(" ");
        if (words[0].equals("rule")) {
            return setRule(data, words[1].charAt(0)).data();
        }
        if (words[0].equals("tide")) {
            return passTides(data, Integer.parseInt(words[1])).data();
        }
        int row = words[1].charAt(0) - '0';
        int column = words[1].charAt(1) - '0';
        switch (words[0]) {
            case "place":
                return place(data, row, column, words[2].charAt(0)).data();
            case "remove":
                return remove(data, row, column).data();
            case "bleach":
                return bleach(data, row, column).data();
            case "colour":
                return recolour(data, row, column, words[2].charAt(0)).data();
            default:
                return plant(data, row, column, words[2].charAt(0), words[2].charAt(1)).data();
        }
    }

    // ---- rejections and history

    private static Object known(Integer number) {
        if (number == null) {
            throw new NoSuchElementException();
        }
        return number;
    }

    Object syntaxErrorOffset() {
        return known(offset);
    }

    Object rejectionReason() {
        return known(reason);
    }

    Object rejectionDetail() {
        return known(detail);
    }

    Object causeReason() {
        return known(cause);
    }

    private int undoable() {
        while (past.size() > 8) {
            past.remove(0);
        }
        return past.size();
    }

    Object undo() {
        if (undoable() == 0) {
            throw new IllegalStateException();
        }
        now = past.remove(past.size() - 1);
        return past.size();
    }

    Object saveSnapshot() {
        saved = now;
        return livingCount();
    }

    Object restoreSnapshot() {
        if (saved == null) {
            throw new IllegalStateException();
        }
        now = saved;
        past.clear();
        return livingCount();
    }
}
