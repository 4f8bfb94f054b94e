/** The edges that promises 11 to 16 name: voters, and the text that says who may. */
public final class VotersEdgesTest {
    private static final int UNKNOWN = -1, OUTSIDE = -2, FULL = -4, NO = -5, NONE = -6;
    private static final int MIN = Integer.MIN_VALUE, MAX = Integer.MAX_VALUE;
    /** Ten TESTS: 39 signs. */
    private static final String OF_39 = "a=1&a=1&a=1&a=1&a=1&a=1&a=1&a=1&a=1&a=1";

    public static void main(String[] args) throws Exception {
        Edges.run(VotersEdgesTest.class, 11, 16);
    }

    private static WallCount said(String text) {
        WallCount x = new WallCount();
        Twins.say(x, text);
        return x;
    }

    private static int faultOf(String text) {
        return said(text).fault();
    }

    private static int mayBy(String text, int age, int years, int barred) {
        WallCount x = said(text);
        x.voter(11, 0, age);
        x.voter(11, 1, years);
        x.voter(11, 2, barred);
        return x.rule() == 1 ? x.may(11) : NO;
    }

    private static int mayAged(String text, int age) {
        return mayBy(text, age, 10, 0);
    }

    // ---- 11 voter

    @Edge("VOTERS 0 to 11 have: 0 AGE (0 to 120; 30 at first), 1 YEARS here (0 to 120; 10), 2 BARRED (0, 1; 0).")
    static void promise11_atFirst(Due due) {
        WallCount x = new WallCount();
        for (int voter = 0; voter <= 11; voter++) {
            due.all("VOTER " + voter, new long[] {x.voter(voter, 0, 1), x.voter(voter, 1, 1), x.voter(voter, 2, 1)}, 30, 10, 0);
        }
    }

    @Edge("What a VOTER has: which it was. UNKNOWN; OUTSIDE.")
    static void promise11_noSuchVoter(Due due) {
        for (int voter : new int[] {-1, 12, MIN, MAX}) {
            Twins.refusedSome(due, "VOTER " + voter, UNKNOWN, x -> x.voter(voter, 0, 1));
        }
        WallCount x = new WallCount();
        due.all("the first and the last", new long[] {x.voter(0, 0, 1), x.voter(11, 0, 1)}, 30, 30);
    }

    @Edge("What a VOTER has: which it was. UNKNOWN; OUTSIDE.")
    static void promise11_whatTooSmallOrTooLarge(Due due) {
        for (int what : new int[] {-1, 3, MIN, MAX}) {
            Twins.refusedSome(due, "what " + what, OUTSIDE, x -> x.voter(0, what, 0));
        }
    }

    @Edge("0 AGE (0 to 120; 30 at first)")
    static void promise11_ageTooSmallOrTooLarge(Due due) {
        for (int v : new int[] {-1, 121, MIN, MAX}) {
            Twins.refusedSome(due, "AGE " + v, OUTSIDE, x -> x.voter(0, 0, v));
        }
        WallCount x = new WallCount();
        due.all("least, greatest", new long[] {x.voter(0, 0, 0), x.voter(0, 0, 120), x.voter(0, 0, 30)}, 30, 0, 120);
    }

    @Edge("1 YEARS here (0 to 120; 10)")
    static void promise11_yearsTooSmallOrTooLarge(Due due) {
        for (int v : new int[] {-1, 121, MIN, MAX}) {
            Twins.refusedSome(due, "YEARS " + v, OUTSIDE, x -> x.voter(0, 1, v));
        }
        WallCount x = new WallCount();
        due.all("least, greatest", new long[] {x.voter(0, 1, 0), x.voter(0, 1, 120), x.voter(0, 1, 10)}, 10, 0, 120);
    }

    @Edge("2 BARRED (0, 1; 0)")
    static void promise11_barredTooSmallOrTooLarge(Due due) {
        for (int v : new int[] {-1, 2, 120, MIN, MAX}) {
            Twins.refusedSome(due, "BARRED " + v, OUTSIDE, x -> x.voter(0, 2, v));
        }
        WallCount x = new WallCount();
        due.all("least, greatest", new long[] {x.voter(0, 2, 0), x.voter(0, 2, 1), x.voter(0, 2, 1)}, 0, 0, 1);
    }

    @Edge("Calls that are refused answer, the first of these that fits")
    static void promise11_unknownBeforeOutside(Due due) {
        WallCount x = new WallCount();
        due.each("more than one is wrong", UNKNOWN, x.voter(12, 3, 0), x.voter(-1, 0, 121), x.voter(12, -1, -1));
    }

    @Edge("What a VOTER has: which it was. UNKNOWN; OUTSIDE.")
    static void promise11_eachHasItsOwn(Due due) {
        WallCount x = new WallCount();
        for (int voter = 0; voter <= 11; voter++) {
            x.voter(voter, 0, 100 + voter);
            x.voter(voter, 1, 50 + voter);
            x.voter(voter, 2, voter % 2);
        }
        for (int voter = 0; voter <= 11; voter++) {
            due.all("VOTER " + voter, new long[] {x.voter(voter, 0, 0), x.voter(voter, 1, 0), x.voter(voter, 2, 0)},
                100 + voter, 50 + voter, voter % 2);
        }
    }

    // ---- 12 say

    @Edge("WHO MAY is a text of up to 40 signs (codes 33 to 126)")
    static void promise12_signTooSmallOrTooLarge(Due due) {
        for (int sign : new int[] {32, 127, 0, 10, -1, 97 + 256, MIN, MAX}) {
            Twins.refusedSome(due, "sign " + sign, OUTSIDE, x -> x.say(sign));
        }
        WallCount x = new WallCount();
        due.all("the least and the greatest", new long[] {x.say(33), x.say(126)}, 1, 2);
    }

    @Edge("A sign more: how many. OUTSIDE; FULL.")
    static void promise12_full(Due due) {
        WallCount x = new WallCount();
        for (int many = 1; many <= 40; many++) {
            due.is("how many", x.say('z'), many);
        }
        due.each("one more", FULL, x.say('z'), x.say(33), x.say(126));
        due.is("forty still", x.count(1), 40);
        for (int sign : new int[] {33, 'a', 126}) {
            Twins.refusedFull(due, "sign " + sign, FULL, y -> y.say(sign));
        }
    }

    @Edge("Calls that are refused answer, the first of these that fits")
    static void promise12_outsideBeforeFull(Due due) {
        Twins.refusedFull(due, "32", OUTSIDE, x -> x.say(32));
        Twins.refusedFull(due, "127", OUTSIDE, x -> x.say(127));
    }

    // ---- 13 wipe

    @Edge("Signs go: how many there were.")
    static void promise13_noSigns(Due due) {
        WallCount x = new WallCount();
        due.all("none to go, twice", new long[] {x.wipe(), x.wipe()}, 0, 0);
        Twins.say(x, "a=1");
        x.rule();
        due.is("none behind rule()", x.wipe(), 0);
    }

    @Edge("Signs go: how many there were.")
    static void promise13_allSigns(Due due) {
        WallCount x = Twins.full();
        due.all("forty go", new long[] {x.count(1), x.wipe(), x.count(1), x.wipe()}, 40, 40, 0, 0);
        due.is("FULL no more", x.say('a'), 1);
        due.is("one goes", x.wipe(), 1);
    }

    @Edge("Signs go: how many there were.")
    static void promise13_whoMayStays(Due due) {
        WallCount x = said("a=1");
        x.rule();
        Twins.say(x, "a=30");
        due.is("four go", x.wipe(), 4);
        due.is("WHO MAY stays", x.may(0), 0);
        Twins.say(x, "a=3");
        due.all("nothing of them is left", new long[] {x.rule(), x.may(0)}, 1, 0);
    }

    // ---- 14 fault

    @Edge("behind the last sign, where a text breaks off, without any sign, too: their number")
    static void promise14_withoutAnySign(Due due) {
        WallCount x = new WallCount();
        due.is("at first", x.fault(), 0);
        Twins.say(x, "a=1");
        due.is("a text", x.fault(), NONE);
        x.wipe();
        due.is("behind wipe()", x.fault(), 0);
        Twins.say(x, "a=1");
        x.rule();
        due.is("behind rule()", x.fault(), 0);
    }

    @Edge("behind the last sign, where a text breaks off, without any sign, too: their number")
    static void promise14_breaksOff(Due due) {
        due.all("behind each sign", new long[] {faultOf("y"), faultOf("y<"), faultOf("y<7"), faultOf("y<7&"), faultOf("y<7&b"),
            faultOf("y<7&b="), faultOf("y<7&b=0"), faultOf("y<7&b=0|"), faultOf("y<7&b=0|a")}, 1, 2, NONE, 4, 5, 6, NONE, 8, 9);
        due.is("behind the fortieth", faultOf(OF_39 + "|"), 40);
        due.is("behind the fortieth", faultOf(OF_39 + "&"), 40);
        due.is("behind the thirty-ninth", faultOf(OF_39.substring(0, 35) + "10|a"), 39);
    }

    @Edge("WHO MAY is a text of up to 40 signs (codes 33 to 126)")
    static void promise14_longestText(Due due) {
        due.is("39 signs", faultOf(OF_39), NONE);
        due.is("40 signs", faultOf(OF_39 + "0"), NONE);
        due.is("the fortieth is wrong", faultOf(OF_39 + "="), 39);
        WallCount x = said(OF_39 + "0");
        due.is("the forty-first is not taken", x.say('='), FULL);
        due.is("so it makes no fault", x.fault(), NONE);
    }

    @Edge("then <, > or =, and 1 to 3 digits.")
    static void promise14_tooFewOrTooManyDigits(Due due) {
        due.all("none", new long[] {faultOf("a="), faultOf("a=&a=1"), faultOf("a=|a=1"), faultOf("a=a")}, 2, 2, 2, 2);
        due.each("1 to 3", NONE, faultOf("a=0"), faultOf("a=9"), faultOf("a=00"), faultOf("a=99"), faultOf("a=000"), faultOf("a=999"));
        due.all("4", new long[] {faultOf("a=0000"), faultOf("a=9999"), faultOf("b=1&a=1234&y=1"), faultOf("a=1|y=0001")}, 5, 5, 9, 9);
    }

    @Edge("at which no sign could make a text go on as it stands.")
    static void promise14_everySignAtEveryPlace(Due due) {
        String[] begun = {"", "a", "a>", "a>1", "a>12", "a>123", "a>1&", "a>1|"};
        String[] good = {"ayb", "<>=", "0123456789", "0123456789&|", "0123456789&|", "&|", "ayb", "ayb"};
        for (int i = 0; i < begun.length; i++) {
            for (int sign = 33; sign <= 126; sign++) {
                String text = begun[i] + (char) sign;
                boolean digit = sign >= '0' && sign <= '9';
                int want = good[i].indexOf(sign) < 0 ? begun[i].length() : digit ? NONE : text.length();
                due.is(text, faultOf(text), want);
            }
        }
    }

    @Edge("one or more BOTHS with a | between two; a BOTH: one or more TESTS with a & between two")
    static void promise14_noneBetweenTwo(Due due) {
        due.each("one BOTH, one TEST", NONE, faultOf("a=1"), faultOf("a=1|a=1"), faultOf("a=1&a=1"));
        due.all("none ahead", new long[] {faultOf("|a=1"), faultOf("&a=1"), faultOf("|"), faultOf("&")}, 0, 0, 0, 0);
        due.all("none between", new long[] {faultOf("a=1||a=1"), faultOf("a=1&&a=1"), faultOf("a=1|&a=1"), faultOf("a=1&|a=1")},
            4, 4, 4, 4);
        due.all("none behind", new long[] {faultOf("a=1|"), faultOf("a=1&")}, 4, 4);
        due.is("nothing between two TESTS", faultOf("a=1a=1"), 3);
    }

    @Edge("THE FAULT: the first place (from 0 on;")
    static void promise14_firstOfMany(Due due) {
        due.all("two faults and more", new long[] {faultOf("zz"), faultOf("a!a!"), faultOf("a=!!"), faultOf("a=1!a=!"), faultOf("!a=")},
            0, 1, 2, 3, 0);
        WallCount x = said("a=1!");
        due.is("it stands", x.fault(), 3);
        Twins.say(x, "&a=1");
        due.is("later signs don't mend it", x.fault(), 3);
    }

    @Edge("THE FAULT; NONE.")
    static void promise14_askingChangesNothing(Due due) {
        WallCount x = said("a=1|");
        due.all("twice alike", new long[] {x.fault(), x.fault(), x.count(1)}, 4, 4, 4);
        Twins.say(x, "b=0");
        due.all("it goes on as said", new long[] {x.fault(), x.rule(), x.may(0)}, NONE, 1, 1);
    }

    // ---- 15 rule

    @Edge("WHO MAY is the text (the signs are empty then): 1. NO: there is a FAULT.")
    static void promise15_withoutAnySign(Due due) {
        Twins.refusedNew(due, "no sign", NO, x -> x.rule());
        WallCount x = said("a=1");
        x.rule();
        due.is("no sign behind rule()", x.rule(), NO);
        due.is("the text before stays", x.may(0), 0);
        Twins.say(x, "a=30");
        x.wipe();
        due.all("no sign behind wipe()", new long[] {x.rule(), x.may(0)}, NO, 0);
    }

    @Edge("WHO MAY is the text (the signs are empty then): 1. NO: there is a FAULT.")
    static void promise15_refusedForAFault(Due due) {
        Twins.refusedFull(due, "forty signs that break off", NO, x -> x.rule());
        for (String text : new String[] {"z", "a", "a=", "a=1&", "a=1234", "a=1!", "a=30|b=0|"}) {
            WallCount x = said("a=1");
            x.rule();
            Twins.say(x, text);
            due.is("refused: " + text, x.rule(), NO);
            due.is("signs stay: " + text, x.count(1), text.length());
            due.is("WHO MAY stays: " + text, x.may(0), 0);
        }
        WallCount x = said("a=1|b=");
        due.is("refused", x.rule(), NO);
        Twins.say(x, "0");
        due.all("the same signs and one more", new long[] {x.rule(), x.may(0)}, 1, 1);
    }

    @Edge("WHO MAY is the text (the signs are empty then): 1.")
    static void promise15_signsAreEmptyThen(Due due) {
        WallCount x = said(OF_39 + "0");
        due.all("forty signs rule", new long[] {x.rule(), x.count(1), x.wipe()}, 1, 0, 0);
        for (int many = 1; many <= 40; many++) {
            due.is("forty more can be said", x.say('z'), many);
        }
        due.is("and no more", x.say('z'), FULL);
        due.is("the text is not these", x.may(0), 0);
    }

    @Edge("WHO MAY is the text (the signs are empty then): 1.")
    static void promise15_shorterBehindLonger(Due due) {
        WallCount x = said("a=1|a=2|a=3|a=4|a=5|a=6|a=7|a=8|a=9|a=30");
        due.all("the longest", new long[] {x.rule(), x.may(0)}, 1, 1);
        for (int turn = 0; turn < 3; turn++) {
            Twins.say(x, "a=3");
            due.all("the shortest, nothing of the longest behind it", new long[] {x.rule(), x.may(0)}, 1, 0);
        }
        Twins.say(x, "a=30");
        due.all("one sign more", new long[] {x.rule(), x.may(0)}, 1, 1);
    }

    // ---- 16 may

    @Edge("Whether a VOTER may: 1, 0. UNKNOWN.")
    static void promise16_noSuchVoter(Due due) {
        for (int voter : new int[] {-1, 12, MIN, MAX}) {
            Twins.refusedNew(due, "VOTER " + voter, UNKNOWN, x -> x.may(voter));
            Twins.refusedSome(due, "VOTER " + voter + " by a text", UNKNOWN, x -> x.may(voter));
        }
        WallCount x = said("a=31");
        x.rule();
        x.voter(0, 0, 31);
        x.voter(11, 0, 31);
        due.all("the first and the last", new long[] {x.may(0), x.may(1), x.may(10), x.may(11)}, 1, 0, 0, 1);
    }

    @Edge("None at first: all may.")
    static void promise16_noTextAtFirst(Due due) {
        WallCount x = new WallCount();
        x.voter(0, 2, 1);
        x.voter(1, 0, 0);
        x.voter(2, 1, 0);
        Twins.say(x, "b=1&a=99");
        for (int voter = 0; voter <= 11; voter++) {
            due.is("VOTER " + voter + ", BARRED or not", x.may(voter), 1);
        }
    }

    @Edge("a TEST: a (AGE), y (YEARS) or b (BARRED), then <, > or =")
    static void promise16_oneMoreOneLess(Due due) {
        due.all("a<18", new long[] {mayAged("a<18", 17), mayAged("a<18", 18), mayAged("a<18", 19)}, 1, 0, 0);
        due.all("a>18", new long[] {mayAged("a>18", 17), mayAged("a>18", 18), mayAged("a>18", 19)}, 0, 0, 1);
        due.all("a=18", new long[] {mayAged("a=18", 17), mayAged("a=18", 18), mayAged("a=18", 19)}, 0, 1, 0);
        due.all("y<5", new long[] {mayBy("y<5", 30, 4, 0), mayBy("y<5", 30, 5, 0), mayBy("y<5", 30, 6, 0)}, 1, 0, 0);
        due.all("y>5", new long[] {mayBy("y>5", 30, 4, 0), mayBy("y>5", 30, 5, 0), mayBy("y>5", 30, 6, 0)}, 0, 0, 1);
        due.all("y=5", new long[] {mayBy("y=5", 30, 4, 0), mayBy("y=5", 30, 5, 0), mayBy("y=5", 30, 6, 0)}, 0, 1, 0);
        due.all("b<1", new long[] {mayBy("b<1", 30, 10, 0), mayBy("b<1", 30, 10, 1)}, 1, 0);
        due.all("b>0", new long[] {mayBy("b>0", 30, 10, 0), mayBy("b>0", 30, 10, 1)}, 0, 1);
        due.all("b=1", new long[] {mayBy("b=1", 30, 10, 0), mayBy("b=1", 30, 10, 1)}, 0, 1);
    }

    @Edge("then <, > or =, and 1 to 3 digits.")
    static void promise16_leastAndGreatestNumber(Due due) {
        due.all("nothing is below 0", new long[] {mayAged("a<0", 0), mayBy("y<0", 0, 0, 0), mayBy("b<0", 0, 0, 0)}, 0, 0, 0);
        due.all("0", new long[] {mayAged("a=0", 0), mayAged("a>0", 0), mayAged("a>0", 1), mayAged("a=000", 0)}, 1, 0, 1, 1);
        due.all("120", new long[] {mayAged("a=120", 120), mayAged("a<120", 120), mayAged("a>119", 120), mayAged("a>120", 120)}, 1, 0, 1, 0);
        due.all("999", new long[] {mayAged("a<999", 120), mayAged("a>999", 120), mayAged("a=999", 120)}, 1, 0, 0);
        due.all("zeros ahead", new long[] {mayAged("a=007", 7), mayAged("a=07", 7), mayAged("a=7", 7), mayAged("a=070", 7)}, 1, 1, 1, 0);
        due.all("BARRED is no more than 1", new long[] {mayBy("b>1", 0, 0, 1), mayBy("b=2", 0, 0, 1), mayBy("b<2", 0, 0, 1)}, 0, 0, 1);
    }

    @Edge("one or more BOTHS with a | between two; a BOTH: one or more TESTS with a & between two")
    static void promise16_bothsAndTests(Due due) {
        // By AGE 1 or 0 each TEST is passed or not: all ways of three TESTS and two signs between.
        for (int way = 0; way < 32; way++) {
            boolean p = (way & 1) != 0, q = (way & 2) != 0, r = (way & 4) != 0;
            boolean firstIsOr = (way & 8) != 0, secondIsOr = (way & 16) != 0;
            String text = "a=" + (p ? 1 : 0) + (firstIsOr ? "|" : "&") + "a=" + (q ? 1 : 0) + (secondIsOr ? "|" : "&") + "a=" + (r ? 1 : 0);
            boolean want = firstIsOr ? secondIsOr ? p || q || r : p || (q && r) : secondIsOr ? (p && q) || r : p && q && r;
            due.is(text, mayAged(text, 1), want ? 1 : 0);
        }
    }

    @Edge("WHO MAY is a text of up to 40 signs (codes 33 to 126)")
    static void promise16_longestText(Due due) {
        due.is("the last TEST of forty signs fails", mayAged(OF_39 + "0", 1), 0);
        due.is("the last sign of forty counts", mayAged("a=1&a=1&a=1&a=1&a=1&a=1&a=1&a=1&a=1|a=10", 10), 1);
        due.is("without it", mayAged("a=1&a=1&a=1&a=1&a=1&a=1&a=1&a=1&a=1|a=1", 10), 0);
        due.is("the first TEST alone", mayAged("a=9|a=1&a=1&a=1&a=1&a=1&a=1&a=1&a=1&a=1", 9), 1);
    }

    @Edge("Whether a VOTER may: 1, 0. UNKNOWN.")
    static void promise16_asTheVoterIsNow(Due due) {
        WallCount x = said("a>17&b=0");
        x.rule();
        due.is("as at first", x.may(5), 1);
        x.voter(5, 0, 17);
        due.is("too young", x.may(5), 0);
        x.voter(5, 0, 18);
        due.is("old enough", x.may(5), 1);
        x.voter(5, 0, 121);
        due.is("a refused AGE changes nothing", x.may(5), 1);
        x.voter(5, 2, 1);
        due.all("BARRED, the others not", new long[] {x.may(5), x.may(4), x.may(6)}, 0, 1, 1);
    }
}
