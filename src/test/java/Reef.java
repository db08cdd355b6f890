/**
 * The methods of ButtonReef. Behind a reef of this kind is a ButtonReef whose calls are counted: the document promises
 * nothing about an object after its 512th call, so a test that goes beyond is a wrong test.
 */
interface Reef {
    int place(int row, int column, char colour);
    int remove(int row, int column);
    int bleach(int row, int column);
    char recolour(int row, int column, char colour);
    int plant(int row, int column, char pattern, char colour);
    char setRule(char rule);
    boolean isEmpty(int row, int column);
    boolean isLiving(int row, int column);
    boolean isBleached(int row, int column);
    char colourAt(int row, int column);
    int ageAt(int row, int column);
    int neighbours(int row, int column);
    int neighboursOf(int row, int column, char colour);
    char birthColour(int row, int column);
    int livingCount();
    int bleachedCount();
    int countOf(char colour);
    int islandCount();
    int islandCountByMerging();
    int islandSize(int row, int column);
    int largestIsland();
    int islandsOf(char colour);
    boolean isJoined(int row, int column, int otherRow, int otherColumn);
    int passTides(int tides);
    boolean wouldLive(int row, int column);
    int livingAfter(int tides);
    boolean isStill();
    int tidesUntilStill();
    char rule();
    boolean isBirth(int neighbours);
    boolean isSurvival(int neighbours);
    int tideCount();
    int placedCount();
    int removedCount();
    int bornCount();
    int bleachings();
    int washedCount();
    int rowByLiving(int position);
    char colourByCount(int position);
    double meanAge();
    float livingShare();
    boolean isConsistent();
    int writeRow(int row);
    int writeRule();
    char outputAt(int index);
    int appendInput(char character);
    int execute();
    int syntaxErrorOffset();
    int rejectionReason();
    int rejectionDetail();
    int causeReason();
    int undo();
    int saveSnapshot();
    int restoreSnapshot();

    /** Another object on which the same calls have been made: what is done to it leaves this one alone. */
    Reef twin();

    static Reef fresh() {
        return RecordedReef.fresh();
    }
}
