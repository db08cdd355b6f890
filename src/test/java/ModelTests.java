import java.util.List;
import java.util.Random;

/** Runs of up to 512 calls on a reef and on a plain reef, drawn from fixed seeds: every answer is the same on both. */
public final class ModelTests {
    private static final int RUNS = 1600;
    private static final int CALLS = 512;
    private static final int CALLS_OF_THE_LAST_COMPARISON = 60;

    private final Random random;
    private int calls = 0;
    private final Reef reef = Reef.fresh();
    private final PlainReef plain = new PlainReef();

    private ModelTests(int seed) {
        random = new Random(seed);
    }

    public static void main(String[] args) {
        for (int seed = 0; seed < RUNS; seed++) {
            Check.begin("run " + seed);
            new ModelTests(seed).run();
        }
        Check.end();
    }

    private void run() {
        int changes = 20 + random.nextInt(60);
        int commands = random.nextInt(20);
        while (calls < CALLS - CALLS_OF_THE_LAST_COMPARISON) {
            int drawn = random.nextInt(100);
            if (drawn < commands) {
                typeAndExecute();
            } else if (drawn < commands + changes) {
                change();
            } else {
                ask();
            }
        }
        compareAll();
    }

    /** Nothing is promised after 512 calls. */
    private void same(String what, Check.Call due, Check.Call got) {
        if (calls < CALLS) {
            calls++;
            Check.same(what, Check.outcome(due), Check.outcome(got));
        }
    }

    // ---- what is drawn

    private int index() {
        return random.nextInt(40) == 0 ? random.nextInt(12) - 2 : random.nextInt(8);
    }

    private char colour() {
        return random.nextInt(40) == 0 ? (char) random.nextInt(300) : "abcd".charAt(random.nextInt(4));
    }

    private char sign(String signs) {
        return random.nextInt(40) == 0 ? (char) random.nextInt(300) : signs.charAt(random.nextInt(signs.length()));
    }

    private void change() {
        int r = index();
        int c = index();
        char colour = colour();
        char pattern = sign("qlxg");
        char rule = sign("cbs");
        int tides = random.nextInt(10) == 0 ? random.nextInt(26) - 2 : 1 + random.nextInt(3);
        switch (random.nextInt(16)) {
            case 0, 1, 2, 3 -> same("place", () -> plain.place(r, c, colour), () -> reef.place(r, c, colour));
            case 4, 5 -> same("remove", () -> plain.remove(r, c), () -> reef.remove(r, c));
            case 6 -> same("bleach", () -> plain.bleach(r, c), () -> reef.bleach(r, c));
            case 7 -> same("recolour", () -> plain.recolour(r, c, colour), () -> reef.recolour(r, c, colour));
            case 8, 9, 10 -> same("plant", () -> plain.plant(r, c, pattern, colour),
                () -> reef.plant(r, c, pattern, colour));
            case 11 -> same("setRule", () -> plain.setRule(rule), () -> reef.setRule(rule));
            case 12, 13 -> same("passTides", () -> plain.passTides(tides), () -> reef.passTides(tides));
            case 14 -> same("undo", () -> plain.undo(), () -> reef.undo());
            default -> snapshot();
        }
    }

    private void snapshot() {
        switch (random.nextInt(5)) {
            case 0 -> same("restoreSnapshot", () -> plain.restoreSnapshot(), () -> reef.restoreSnapshot());
            case 1 -> same("saveSnapshot", () -> plain.saveSnapshot(), () -> reef.saveSnapshot());
            default -> same("undo", () -> plain.undo(), () -> reef.undo());
        }
    }

    private void typeAndExecute() {
        StringBuilder text = new StringBuilder(command());
        while (random.nextInt(3) > 0) {
            text.append(';').append(command());
        }
        if (random.nextInt(5) == 0) {
            int at = random.nextInt(text.length());
            text.setCharAt(at, "place 0;tidrum1".charAt(random.nextInt(15)));
        }
        if (random.nextInt(12) == 0) {
            text.setLength(random.nextInt(text.length()));
        }
        for (int i = 0; i < text.length(); i++) {
            char sign = text.charAt(i);
            same("appendInput", () -> plain.appendInput(sign), () -> reef.appendInput(sign));
        }
        if (random.nextInt(20) > 0) {
            same("execute of " + text, () -> plain.execute(), () -> reef.execute());
        }
    }

    private String command() {
        int limit = random.nextInt(20) == 0 ? 10 : 8;
        String cell = "" + random.nextInt(limit) + random.nextInt(limit);
        char colour = "abcd".charAt(random.nextInt(4));
        switch (random.nextInt(9)) {
            case 0:
                return "remove " + cell;
            case 1:
                return "bleach " + cell;
            case 2:
                return "colour " + cell + " " + colour;
            case 3:
                return "plant " + cell + " " + "qlxg".charAt(random.nextInt(4)) + colour;
            case 4:
                return "rule " + List.of("calm", "busy", "slow").get(random.nextInt(3));
            case 5:
                return "tide " + (random.nextInt(8) == 0 ? random.nextInt(25) : 1 + random.nextInt(4));
            default:
                return "place " + cell + " " + colour;
        }
    }

    // ---- questions

    private void ask() {
        switch (random.nextInt(6)) {
            case 0 -> compareCells();
            case 1 -> compareIslands();
            case 2 -> compareTides();
            case 3 -> compareTotals();
            case 4 -> compareTexts();
            default -> compareLatest();
        }
    }

    private void compareAll() {
        compareCells();
        compareIslands();
        compareTides();
        compareTotals();
        compareTexts();
        compareLatest();
    }

    private void compareCells() {
        int r = index();
        int c = index();
        char colour = colour();
        same("isEmpty", () -> plain.isEmpty(r, c), () -> reef.isEmpty(r, c));
        same("isLiving", () -> plain.isLiving(r, c), () -> reef.isLiving(r, c));
        same("isBleached", () -> plain.isBleached(r, c), () -> reef.isBleached(r, c));
        same("colourAt", () -> plain.colourAt(r, c), () -> reef.colourAt(r, c));
        same("ageAt", () -> plain.ageAt(r, c), () -> reef.ageAt(r, c));
        same("neighbours", () -> plain.neighbours(r, c), () -> reef.neighbours(r, c));
        same("neighboursOf", () -> plain.neighboursOf(r, c, colour), () -> reef.neighboursOf(r, c, colour));
        same("birthColour", () -> plain.birthColour(r, c), () -> reef.birthColour(r, c));
        same("livingCount", () -> plain.livingCount(), () -> reef.livingCount());
        same("bleachedCount", () -> plain.bleachedCount(), () -> reef.bleachedCount());
        same("countOf", () -> plain.countOf(colour), () -> reef.countOf(colour));
    }

    private void compareIslands() {
        int r = index();
        int c = index();
        int otherR = index();
        int otherC = index();
        char colour = colour();
        same("islandCount", () -> plain.islandCount(), () -> reef.islandCount());
        same("islandCountByMerging", () -> plain.islandCount(), () -> reef.islandCountByMerging());
        same("islandSize", () -> plain.islandSize(r, c), () -> reef.islandSize(r, c));
        same("largestIsland", () -> plain.largestIsland(), () -> reef.largestIsland());
        same("islandsOf", () -> plain.islandsOf(colour), () -> reef.islandsOf(colour));
        same("isJoined", () -> plain.isJoined(r, c, otherR, otherC), () -> reef.isJoined(r, c, otherR, otherC));
    }

    private void compareTides() {
        int r = index();
        int c = index();
        int tides = random.nextInt(24) - 1;
        int number = random.nextInt(12) - 1;
        same("wouldLive", () -> plain.wouldLive(r, c), () -> reef.wouldLive(r, c));
        same("isStill", () -> plain.isStill(), () -> reef.isStill());
        same("rule", () -> plain.rule(), () -> reef.rule());
        same("isBirth", () -> plain.isBirth(number), () -> reef.isBirth(number));
        same("isSurvival", () -> plain.isSurvival(number), () -> reef.isSurvival(number));
        if (random.nextInt(8) == 0) {
            same("livingAfter", () -> plain.livingAfter(tides), () -> reef.livingAfter(tides));
            same("tidesUntilStill", () -> plain.tidesUntilStill(), () -> reef.tidesUntilStill());
        }
    }

    private void compareTotals() {
        int position = random.nextInt(10) - 1;
        List<Integer> totals = plain.totals();
        same("tideCount", () -> totals.get(0), () -> reef.tideCount());
        same("placedCount", () -> totals.get(1), () -> reef.placedCount());
        same("removedCount", () -> totals.get(2), () -> reef.removedCount());
        same("bornCount", () -> totals.get(3), () -> reef.bornCount());
        same("bleachings", () -> totals.get(4), () -> reef.bleachings());
        same("washedCount", () -> totals.get(5), () -> reef.washedCount());
        same("rowByLiving", () -> plain.rowByLiving(position), () -> reef.rowByLiving(position));
        same("colourByCount", () -> plain.colourByCount(position / 2), () -> reef.colourByCount(position / 2));
        same("meanAge", () -> plain.meanAge(), () -> reef.meanAge());
        same("livingShare", () -> plain.livingShare(), () -> reef.livingShare());
        same("isConsistent", () -> true, () -> reef.isConsistent());
    }

    private void compareTexts() {
        int row = index();
        if (random.nextInt(8) == 0) {
            same("writeRule", () -> plain.writeRule(), () -> reef.writeRule());
        } else {
            same("writeRow", () -> plain.writeRow(row), () -> reef.writeRow(row));
        }
        for (int i = 0; i < 10; i++) {
            int index = random.nextInt(18) - 2;
            same("outputAt", () -> plain.outputAt(index), () -> reef.outputAt(index));
        }
    }

    private void compareLatest() {
        same("syntaxErrorOffset", () -> plain.syntaxErrorOffset(), () -> reef.syntaxErrorOffset());
        same("rejectionReason", () -> plain.rejectionReason(), () -> reef.rejectionReason());
        same("rejectionDetail", () -> plain.rejectionDetail(), () -> reef.rejectionDetail());
        same("causeReason", () -> plain.causeReason(), () -> reef.causeReason());
    }
}
