import java.util.List;

/**
 * Nothing changes but what the document says: what is only asked changes nothing, what is told
 * changes itself alone. So an answer is the same alone, in a row of others, and in that row
 * backwards.
 */
public final class AskedTest {
    private final House house;

    private AskedTest(House house) {
        this.house = house;
    }

    public static void main(String[] args) {
        for (House house : House.values()) {
            Check.sentence("Not promised: nothing is promised beyond the answers and state changes"
                + " described above (" + house + ")");
            AskedTest test = new AskedTest(house);
            test.aloneAsInARow(House.TOLD);
            test.aloneAsInARow(House.AS_CHOSEN);
            test.backwards(House.TOLD);
            test.backwards(House.AS_CHOSEN);
            test.askingChangesNothing(House.TOLD);
            test.askingChangesNothing(House.CHOSEN_ANEW);
            test.choosingTellsNothing();
            test.choosingTwice();
        }
        Check.end();
    }

    private void aloneAsInARow(int round) {
        List<Long> inARow = house.answers(house.build(), round);
        List<House.Ask> asks = house.asks(round);
        for (int at = 0; at < asks.size(); at++) {
            long alone = House.answer(house.build(), asks.get(at));
            Check.due("round " + round + ", ask " + at + " in a row", inARow.get(at), alone);
        }
    }

    private void backwards(int round) {
        List<Long> forwards = house.answers(house.build(), round);
        List<House.Ask> asks = house.asks(round);
        CostYears x = house.build();
        for (int at = asks.size() - 1; at >= 0; at--) {
            long got = House.answer(x, asks.get(at));
            Check.due("round " + round + ", ask " + at + " backwards", got, forwards.get(at));
        }
    }

    private void askingChangesNothing(int round) {
        List<Long> untouched = house.answers(house.build(), round);
        List<House.Ask> asks = house.asks(House.AS_CHOSEN);
        for (int at = 0; at < asks.size(); at++) {
            CostYears x = house.build();
            House.answer(x, asks.get(at));
            boolean alike = house.answers(x, round).equals(untouched);
            Check.due("round " + round + " behind ask " + at, alike, true);
        }
    }

    private void choosingTellsNothing() {
        List<Long> untouched = house.answers(house.build(), House.TOLD);
        CostYears x = house.build();
        x.choose();
        boolean alike = house.answers(x, House.TOLD).equals(untouched);
        Check.due("what is told is as it was behind choose()", alike, true);
    }

    private void choosingTwice() {
        List<Long> once = house.answers(house.build(), House.CHOSEN_ANEW);
        CostYears x = house.build();
        x.choose();
        boolean alike = house.answers(x, House.CHOSEN_ANEW).equals(once);
        Check.due("choose() twice is as once", alike, true);
    }
}
