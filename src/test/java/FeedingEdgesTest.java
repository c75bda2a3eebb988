/** The sentences on joints, the order, risers and feeders that name an edge (6 to 12). */
public final class FeedingEdgesTest {
    private static final int HERE = Run.HERE;
    private static final int MOST = Integer.MAX_VALUE;
    private static final int LEAST = Integer.MIN_VALUE;

    public static void main(String[] args) {
        joinNoSuchParts();
        joinOne();
        joinWhatIsSo();
        joinAllOfTwelve();
        orderOfNone();
        orderBeyond();
        orderOfTheSame();
        orderByTheLeastDifference();
        orderLeavesOut();
        eightRiserRows();
        sizesOfRiserRows();
        modulusOfARiserRow();
        sixFifths();
        firstRowByNumbers();
        riserOfNoPart();
        riserOfAPartThatCannotBeTold();
        noRowIsGreatEnough();
        inPlaceOfOneThatItHas();
        cutOffNoPart();
        cutOffWithoutARiser();
        cutOffWhileItCannotBeTold();
        feederOfNoPart();
        feederIsARiser();
        feederIsGreater();
        feederOfTheLeastDifference();
        feederOfTheSame();
        feederLastPart();
        cannotBeToldFeedsNone();
        cannotBeToldIsFedByNone();
        aRiserStaysWhenThePartGrows();
        unfedOfNone();
        unfedBeyond();
        unfedIsNotWhatCannotBeTold();
        Check.end();
    }

    private static Run cubes(String sentence, int... sizes) {
        Run run = new Run(sentence);
        for (int part = 0; part < sizes.length; part++) {
            run.due(part, "box", sizes[part], sizes[part], sizes[part]);
        }
        return run;
    }

    private static Run cover(Run run, int part) {
        for (int face = 0; face < 6; face++) {
            run.done("face", part, face, 0);
        }
        return run;
    }

    /** What order or unfed tell, one after the other, and -1 behind them. */
    private static Run row(Run run, String name, int... want) {
        for (int i = 0; i < want.length; i++) {
            run.due(want[i], name, i);
        }
        return run.due(-1, name, want.length).due(-1, name, want.length + 1).due(-1, name, MOST);
    }

    private static void joinNoSuchParts() {
        cubes("Index: no such parts", 10, 20)
                .refusedWithEach(Run.beyond(0, 1), Check.INDEX, "join", 0, HERE, 1)
                .refusedWithEach(Run.beyond(0, 1), Check.INDEX, "join", HERE, 0, 1)
                .refusedWithEach(Run.beyond(0, 1), Check.INDEX, "join", HERE, HERE, 1)
                .refused(Check.INDEX, "join", 11, 0, 1).refused(Check.INDEX, "join", 12, 0, 1)
                .done("join", 0, 1, 1)
                .refusedWithEach(Run.beyond(0, 1), Check.INDEX, "join", 1, HERE, 0)
                .refusedWithEach(Run.beyond(0, 1), Check.INDEX, "join", HERE, 1, 0)
                .due(1, "feeder", 0).done("join", 0, 1, 0).due(-1, "feeder", 0);
    }

    private static void joinOne() {
        cubes("or they are one", 10, 20)
                .refused(Check.INDEX, "join", 0, 0, 1).refused(Check.INDEX, "join", 0, 0, 0)
                .refused(Check.INDEX, "join", 1, 1, 1).refused(Check.INDEX, "join", 1, 1, 0);
    }

    private static void joinWhatIsSo() {
        cubes("turn: they are so", 10, 20, 30)
                .refused(Check.TURN, "join", 0, 1, 0).refused(Check.TURN, "join", 1, 0, 0)
                .done("join", 0, 1, 1).due(1, "feeder", 0)
                .refused(Check.TURN, "join", 0, 1, 1).refused(Check.TURN, "join", 1, 0, 1)
                .refused(Check.TURN, "join", 0, 2, 0).refused(Check.TURN, "join", 2, 1, 0)
                .done("join", 1, 0, 0).due(-1, "feeder", 0)
                .refused(Check.TURN, "join", 0, 1, 0).refused(Check.TURN, "join", 1, 0, 0)
                .done("join", 1, 0, 1).due(1, "feeder", 0);
    }

    private static void joinAllOfTwelve() {
        Run run = cubes("JOINED parts are neighbours", 1, 2, 3, 4, 5, 6, 7, 8, 9, 10, 11, 12);
        for (int a = 0; a < 12; a++) {
            for (int b = a + 1; b < 12; b++) {
                run.due(a == 0 ? (b == 1 ? -1 : b - 1) : 11, "feeder", 0)
                        .done("join", a, b, 1);
            }
        }
        for (int part = 0; part < 11; part++) {
            run.due(11, "feeder", part);
        }
        row(run.due(-1, "feeder", 11), "unfed", 11);
        run.done("join", 11, 0, 0).due(10, "feeder", 0).due(11, "feeder", 1);
    }

    private static void orderOfNone() {
        row(new Run("-1 when there are not so many"), "order");
        row(cover(cubes("-1 when there are not so many", 10), 0), "order");
    }

    private static void orderBeyond() {
        row(cubes("-1 when there are not so many", 10), "order", 0);
        row(cubes("-1 when there are not so many", 20, 10), "order", 1, 0);
        row(cubes("-1 when there are not so many", 12, 11, 10, 9, 8, 7, 6, 5, 4, 3, 2, 1),
                "order", 11, 10, 9, 8, 7, 6, 5, 4, 3, 2, 1, 0);
        cubes("Index: i is below 0", 10).due(0, "order", 0).refused(Check.INDEX, "order", -1)
                .refused(Check.INDEX, "order", LEAST);
        new Run("Index: i is below 0").refused(Check.INDEX, "order", -1);
    }

    private static void orderOfTheSame() {
        Run run = cubes("the least first, of the same by numbers", 30, 10, 30, 10)
                .due(4, "cylinder", 30, 30).due(5, "cylinder", 10, 10);
        row(run, "order", 1, 3, 5, 0, 2, 4);
    }

    /** Part 0 is greater by 1 over the product of the lower numbers: less there can't be. */
    private static Run leastDifference(String sentence) {
        return new Run(sentence).due(0, "box", 807, 809, 569).due(1, "box", 787, 595, 542)
                .done("face", 0, 1, 0).done("face", 0, 3, 0).done("face", 0, 4, 2)
                .done("face", 1, 5, 0);
    }

    private static void orderByTheLeastDifference() {
        row(leastDifference("parts by moduli, the least first"), "order", 1, 0);
    }

    private static void orderLeavesOut() {
        Run run = cubes("those whose modulus can't be told are left out", 10, 20, 30);
        row(cover(run, 0), "order", 1, 2);
        row(cover(run, 2), "order", 1);
        row(cover(run, 1), "order");
        row(run.done("face", 2, 5, 1), "order", 2);
        row(run.done("face", 0, 0, 2), "order", 0, 2);
    }

    private static void eightRiserRows() {
        Run run = cubes("RISER ROWS, at most 8. Turn: there are 8", 100);
        for (int many = 1; many <= 7; many++) {
            run.due(many, "riserRow", many, many);
        }
        run.refused(Check.MEANING, "riser", 0).due(8, "riserRow", 1000, 1000)
                .refused(Check.TURN, "riserRow", 1000, 1000).refused(Check.TURN, "riserRow", 1, 1)
                .due(7, "riser", 0).due(107, "feeder", 0);
    }

    private static void sizesOfRiserRows() {
        new Run("a diameter and a height (1 .. 1,000 each)")
                .refusedWithEach(Run.beyond(1, 1000), Check.RANGE, "riserRow", HERE, 1)
                .refusedWithEach(Run.beyond(1, 1000), Check.RANGE, "riserRow", 1, HERE)
                .refusedWithEach(Run.beyond(1, 1000), Check.RANGE, "riserRow", HERE, HERE)
                .due(1, "riserRow", 1, 1).due(2, "riserRow", 1000, 1000)
                .due(3, "riserRow", 1, 1000).due(4, "riserRow", 1000, 1);
    }

    /** A cube of 5 has 5/6, so it takes a riser of modulus 1; a cylinder may have it just so. */
    private static void modulusOfARiserRow() {
        String sentence = "such a cylinder of which all faces but one end cool";
        // 6 by 3 is 18 over 12 + 6: with both ends it would be less, with none it would be more.
        cubes(sentence, 5).due(1, "riserRow", 6, 3).due(0, "riser", 0);
        cubes(sentence, 5).due(1, "riserRow", 5, 5).due(0, "riser", 0);
        cubes(sentence, 5).due(1, "riserRow", 8, 2).due(0, "riser", 0);
        cubes(sentence, 5).due(1, "riserRow", 6, 2).refused(Check.MEANING, "riser", 0);
        cubes(sentence, 5).due(1, "riserRow", 5, 4).refused(Check.MEANING, "riser", 0);
        cubes(sentence, 5).due(1, "riserRow", 7, 2).refused(Check.MEANING, "riser", 0);
    }

    private static void sixFifths() {
        String sentence = "not below six fifths of its own";
        cubes(sentence, 100).due(1, "riserRow", 100, 100).due(0, "riser", 0);
        cubes(sentence, 101).due(1, "riserRow", 100, 100).refused(Check.MEANING, "riser", 0);
        // Just six fifths, more by less than a billionth, and less by so little.
        new Run(sentence).due(0, "box", 720, 900, 975).due(1, "riserRow", 832, 936)
                .due(0, "riser", 0);
        new Run(sentence).due(0, "box", 983, 986, 647).due(1, "riserRow", 810, 977)
                .due(0, "riser", 0);
        new Run(sentence).due(0, "box", 944, 849, 934).due(1, "riserRow", 996, 668)
                .refused(Check.MEANING, "riser", 0);
        // The greatest numbers: all faces of the greatest box are chilled, or only one cools.
        Run run = cubes(sentence, 1000).due(1, "riserRow", 1000, 1000);
        run.due(0, "riser", 0);
        for (int face = 0; face < 6; face++) {
            run.done("face", 0, face, 2);
        }
        run.due(0, "riser", 0);
        for (int face = 0; face < 5; face++) {
            run.done("face", 0, face, 0);
        }
        run.refused(Check.MEANING, "riser", 0).due(100, "feeder", 0);
    }

    private static void firstRowByNumbers() {
        cubes("the first row (by numbers)", 100)
                .due(1, "riserRow", 99, 100).due(2, "riserRow", 1000, 1000)
                .due(3, "riserRow", 100, 100).due(4, "riserRow", 100, 100)
                .due(1, "riser", 0).due(101, "feeder", 0);
        cubes("the first row (by numbers)", 100)
                .due(1, "riserRow", 100, 100).due(2, "riserRow", 100, 100)
                .due(0, "riser", 0).due(100, "feeder", 0);
    }

    private static void riserOfNoPart() {
        cubes("riser. Index: no such part", 10, 10).due(1, "riserRow", 100, 100)
                .refusedWithEach(Run.beyond(0, 1), Check.INDEX, "riser", HERE)
                .due(0, "riser", 0).due(0, "riser", 1);
    }

    private static void riserOfAPartThatCannotBeTold() {
        Run run = cubes("meaning: its modulus can't be told", 10).due(1, "riserRow", 100, 100);
        cover(run, 0).refused(Check.MEANING, "riser", 0).refused(Check.TURN, "cutOff", 0)
                .done("face", 0, 0, 1).due(-1, "feeder", 0);
        // One that it has, it keeps.
        run.due(0, "riser", 0).done("face", 0, 0, 0).refused(Check.MEANING, "riser", 0)
                .done("face", 0, 0, 1).due(100, "feeder", 0);
    }

    private static void noRowIsGreatEnough() {
        String sentence = "no row is great enough (it keeps what it has)";
        cubes(sentence, 10).refused(Check.MEANING, "riser", 0).due(-1, "feeder", 0)
                .due(1, "riserRow", 1, 1).refused(Check.MEANING, "riser", 0)
                .due(-1, "feeder", 0).refused(Check.TURN, "cutOff", 0);
        // 10 by 10 is 2, six fifths of 10/6; with a face less than all it is too small.
        cubes(sentence, 10).due(1, "riserRow", 10, 10).due(0, "riser", 0)
                .done("face", 0, 3, 0).refused(Check.MEANING, "riser", 0)
                .due(100, "feeder", 0).done("cutOff", 0).refused(Check.MEANING, "riser", 0)
                .due(-1, "feeder", 0);
    }

    private static void inPlaceOfOneThatItHas() {
        cubes("in place of one that it has", 10)
                .due(1, "riserRow", 10, 10).due(2, "riserRow", 20, 20)
                .due(0, "riser", 0).due(0, "riser", 0).due(100, "feeder", 0)
                .done("face", 0, 0, 0).due(1, "riser", 0).due(101, "feeder", 0)
                .done("face", 0, 0, 1).due(0, "riser", 0).due(100, "feeder", 0)
                .done("cutOff", 0).due(-1, "feeder", 0).refused(Check.TURN, "cutOff", 0);
    }

    private static void cutOffNoPart() {
        cubes("cutOff. Index: no such part", 10, 10).due(1, "riserRow", 100, 100)
                .due(0, "riser", 0).due(0, "riser", 1)
                .refusedWithEach(Run.beyond(0, 1), Check.INDEX, "cutOff", HERE)
                .done("cutOff", 0).done("cutOff", 1);
    }

    private static void cutOffWithoutARiser() {
        cubes("turn: it has none", 10, 20).done("join", 0, 1, 1)
                .refused(Check.TURN, "cutOff", 0).due(1, "riserRow", 100, 100)
                .refused(Check.TURN, "cutOff", 0).due(0, "riser", 1)
                .refused(Check.TURN, "cutOff", 0).done("cutOff", 1)
                .refused(Check.TURN, "cutOff", 1).due(0, "riser", 0).done("cutOff", 0)
                .refused(Check.TURN, "cutOff", 0).due(1, "feeder", 0);
    }

    private static void cutOffWhileItCannotBeTold() {
        Run run = cubes("A part's riser is taken away", 10).due(1, "riserRow", 100, 100)
                .due(0, "riser", 0);
        cover(run, 0).done("cutOff", 0).refused(Check.TURN, "cutOff", 0)
                .done("face", 0, 0, 1).due(-1, "feeder", 0);
    }

    private static void feederOfNoPart() {
        cubes("feeder. Index: no such part", 10, 20).done("join", 0, 1, 1)
                .due(1, "feeder", 0).due(-1, "feeder", 1)
                .refusedWithEach(Run.beyond(0, 1), Check.INDEX, "feeder", HERE);
    }

    private static void feederIsARiser() {
        Run run = cubes("100 and its riser's row", 2, 4, 6, 8, 10, 12, 14, 16, 1000);
        for (int part = 0; part < 8; part++) {
            run.done("join", part, 8, 1).due(part + 1, "riserRow", 2 * part + 2, 2 * part + 2);
        }
        for (int part = 0; part < 8; part++) {
            run.due(8, "feeder", part).due(part, "riser", part).due(100 + part, "feeder", part);
        }
        run.due(-1, "feeder", 8).done("cutOff", 7).due(8, "feeder", 7);
    }

    private static void feederIsGreater() {
        cubes("a neighbour of a greater modulus", 10, 10, 9, 11).done("join", 0, 1, 1)
                .due(-1, "feeder", 0).due(-1, "feeder", 1)
                .done("join", 0, 2, 1).due(-1, "feeder", 0).due(0, "feeder", 2)
                .due(-1, "feeder", 3).done("join", 0, 3, 1).due(3, "feeder", 0)
                .due(-1, "feeder", 1).due(-1, "feeder", 3);
    }

    private static void feederOfTheLeastDifference() {
        leastDifference("a neighbour of a greater modulus").done("join", 0, 1, 1)
                .due(-1, "feeder", 0).due(0, "feeder", 1);
    }

    private static void feederOfTheSame() {
        Run run = cubes("of the same the lowest number", 20, 20, 10, 20, 15);
        run.done("join", 2, 4, 1).due(4, "feeder", 2).done("join", 2, 3, 1).due(3, "feeder", 2)
                .done("join", 2, 1, 1).due(1, "feeder", 2).done("join", 2, 0, 1)
                .due(0, "feeder", 2).done("join", 0, 2, 0).due(1, "feeder", 2);
    }

    private static void feederLastPart() {
        cubes("its feeder", 1, 2, 3, 4, 5, 6, 7, 8, 9, 10, 11, 12).done("join", 0, 11, 1)
                .due(11, "feeder", 0).due(-1, "feeder", 11).done("join", 10, 11, 1)
                .due(11, "feeder", 10);
    }

    private static void cannotBeToldFeedsNone() {
        Run run = cubes("A part whose modulus can't be told feeds none", 10, 1000, 20)
                .done("join", 0, 1, 1).due(1, "feeder", 0);
        cover(run, 1).due(-1, "feeder", 0).due(-2, "feeder", 1).done("join", 2, 0, 1)
                .due(2, "feeder", 0);
        run.done("face", 1, 0, 1).due(1, "feeder", 0);
    }

    private static void cannotBeToldIsFedByNone() {
        Run run = cubes("and is fed by none. -2 its modulus can't be told", 10, 1000)
                .done("join", 0, 1, 1).due(1, "riserRow", 100, 100);
        for (int face = 0; face < 5; face++) {
            run.done("face", 0, face, 0);
        }
        run.due(1, "feeder", 0).done("face", 0, 5, 0).due(-2, "feeder", 0)
                .done("face", 0, 5, 1).due(0, "riser", 0).due(100, "feeder", 0)
                .done("face", 0, 5, 0).due(-2, "feeder", 0).done("face", 0, 5, 1)
                .due(100, "feeder", 0);
    }

    private static void aRiserStaysWhenThePartGrows() {
        cubes("A part's riser is taken away (by cutOff alone)", 10).due(1, "riserRow", 10, 10)
                .due(0, "riser", 0).done("face", 0, 0, 0).due(100, "feeder", 0)
                .refused(Check.MEANING, "riser", 0).due(100, "feeder", 0);
    }

    private static void unfedOfNone() {
        row(new Run("-1 when there are not so many"), "unfed");
        Run run = cubes("-1 when there are not so many", 10).due(1, "riserRow", 10, 10)
                .due(0, "riser", 0);
        row(run, "unfed");
        row(run.done("cutOff", 0), "unfed", 0);
    }

    private static void unfedBeyond() {
        row(cubes("(0 first, by numbers)", 30, 20, 10), "unfed", 0, 1, 2);
        row(cubes("(0 first, by numbers)", 12, 11, 10, 9, 8, 7, 6, 5, 4, 3, 2, 1),
                "unfed", 0, 1, 2, 3, 4, 5, 6, 7, 8, 9, 10, 11);
        row(cubes("(0 first, by numbers)", 10, 20, 30).done("join", 0, 1, 1), "unfed", 1, 2);
        cubes("Index: i is below 0", 10).due(0, "unfed", 0).refused(Check.INDEX, "unfed", -1)
                .refused(Check.INDEX, "unfed", LEAST);
        new Run("Index: i is below 0").refused(Check.INDEX, "unfed", -1);
    }

    private static void unfedIsNotWhatCannotBeTold() {
        Run run = cubes("that nothing feeds (-1 above)", 10, 20, 30);
        row(cover(run, 1), "unfed", 0, 2);
        row(cover(run, 0), "unfed", 2);
        row(cover(run, 2), "unfed");
        row(run.done("face", 1, 4, 1), "unfed", 1);
    }
}
