/** Promises 11 to 25: voters, who may, the wall and its copy. */
public final class WallTest {
    private static final int UNKNOWN = -1, OUTSIDE = -2, STATE = -3, FULL = -4, NO = -5, NONE = -6;
    private static final Due DUE = new Due();

    public static void main(String[] args) {
        voter();
        signs();
        fault();
        rule();
        may();
        close();
        row();
        attach();
        cast();
        ofRow();
        kinds();
        find();
        tally();
        copy();
        parted();
        DUE.end();
    }

    private static void say(WallCount x, String text) {
        for (int i = 0; i < text.length(); i++) {
            x.say(text.charAt(i));
        }
    }

    private static int faultOf(String text) {
        WallCount x = new WallCount();
        say(x, text);
        return x.fault();
    }

    private static int mayBy(String text, int age, int years, int barred) {
        WallCount x = new WallCount();
        x.voter(7, 0, age);
        x.voter(7, 1, years);
        x.voter(7, 2, barred);
        say(x, text);
        DUE.is("the text is right: " + text, x.rule(), 1);
        return x.may(7);
    }

    private static void fill(WallCount x, int rows) {
        for (int i = 0; i < rows; i++) {
            x.cast(i % 12, 1, 1, 1, 1, 1, 1);
        }
    }

    private static void voter() {
        WallCount x = new WallCount();
        int[] first = {30, 10, 0};
        int[] most = {120, 120, 1};
        for (int voter = 0; voter < 12; voter++) {
            for (int what = 0; what < 3; what++) {
                DUE.is("11 at first", x.voter(voter, what, most[what]), first[what]);
            }
        }
        for (int voter = 0; voter < 12; voter++) {
            for (int what = 0; what < 3; what++) {
                DUE.is("11 beyond", x.voter(voter, what, most[what] + 1), OUTSIDE);
                DUE.is("11 below", x.voter(voter, what, -1), OUTSIDE);
                DUE.is("11 which it was", x.voter(voter, what, 0), most[what]);
                DUE.is("11 least", x.voter(voter, what, 0), 0);
            }
        }
        DUE.is("11 unknown", x.voter(-1, 0, 0), UNKNOWN);
        DUE.is("11 unknown first", x.voter(12, 3, 0), UNKNOWN);
        DUE.is("11 what", x.voter(0, -1, 0), OUTSIDE);
        DUE.is("11 what", x.voter(0, 3, 0), OUTSIDE);
    }

    private static void signs() {
        WallCount x = new WallCount();
        DUE.is("13 nothing", x.wipe(), 0);
        DUE.is("12 below", x.say(32), OUTSIDE);
        DUE.is("12 beyond", x.say(127), OUTSIDE);
        DUE.is("12 least", x.say(33), 1);
        DUE.is("12 most", x.say(126), 2);
        for (int i = 3; i <= 40; i++) {
            DUE.is("12 how many", x.say('a'), i);
        }
        DUE.is("12 full", x.say('a'), FULL);
        DUE.is("12 full, outside first", x.say(32), OUTSIDE);
        DUE.is("12 signs stay", x.count(1), 40);
        DUE.is("13 how many", x.wipe(), 40);
        DUE.is("13 gone", x.count(1), 0);
        DUE.is("12 anew", x.say('a'), 1);
    }

    private static void fault() {
        String[] right = {"a>1", "y<12", "b=999", "a=000", "a>1&b=0", "a>1|b=0", "a>17&b=0|y>50", "a<1|a<2&a<3|a<4&a<5"};
        for (String text : right) {
            DUE.is("14 right: " + text, faultOf(text), NONE);
            for (int cut = 0; cut < text.length(); cut++) {
                String begun = text.substring(0, cut);
                boolean whole = cut > 0 && Character.isDigit(begun.charAt(cut - 1));
                DUE.is("14 broken off: " + begun, faultOf(begun), whole ? NONE : cut);
            }
        }
        Object[][] wrong = {{"c=1", 0}, {">1", 0}, {"1", 0}, {"&", 0}, {"A=1", 0}, {"a1", 1}, {"ay", 1}, {"a!", 1}, {"a>>", 2},
            {"a>=1", 2}, {"a>&", 2}, {"a>b", 2}, {"a>1a", 3}, {"a>1=", 3}, {"a>12b", 4}, {"a>1234", 5}, {"a>123a", 5},
            {"a>1&&", 4}, {"a>1||b=0", 4}, {"a>1&|", 4}, {"a>1&1", 4}, {"zzz", 0}, {"a>1|b=0;", 7}, {"a>1/", 3}, {"a>1:", 3}};
        for (Object[] w : wrong) {
            DUE.is("14 wrong: " + w[0], faultOf((String) w[0]), (Integer) w[1]);
        }
        String ten = "a=1&a=1&a=1&a=1&a=1&a=1&a=1&a=1&a=1&a=1";
        DUE.is("14 of 39", faultOf(ten), NONE);
        DUE.is("14 of 40", faultOf(ten + "0"), NONE);
        DUE.is("14 of 40, broken off", faultOf(ten + "|"), 40);
        DUE.is("14 of 40, last", faultOf(ten + "a"), 39);
    }

    private static void rule() {
        WallCount x = new WallCount();
        DUE.is("15 no sign", x.rule(), NO);
        say(x, "b=1");
        DUE.is("15 right", x.rule(), 1);
        DUE.is("15 signs are empty", x.count(1), 0);
        DUE.is("15 it rules", x.may(0), 0);
        DUE.is("15 no sign again", x.rule(), NO);
        say(x, "b=0|");
        DUE.is("15 a fault", x.rule(), NO);
        DUE.is("15 signs stay", x.count(1), 4);
        DUE.is("15 the old one rules", x.may(0), 0);
        x.wipe();
        DUE.is("15 wiping leaves it", x.may(0), 0);
        say(x, "a=30");
        DUE.is("15 not yet", x.may(0), 0);
        DUE.is("15 another", x.rule(), 1);
        DUE.is("15 the other rules", x.may(0), 1);
        say(x, "a=30");
        x.rule();
        say(x, "a=3");
        x.rule();
        DUE.is("15 a shorter one, nothing of the longer ones left", x.may(0), 0);
    }

    private static void may() {
        WallCount x = new WallCount();
        x.voter(3, 2, 1);
        for (int voter = 0; voter < 12; voter++) {
            DUE.is("16 all may", x.may(voter), 1);
        }
        DUE.is("16 unknown", x.may(-1), UNKNOWN);
        DUE.is("16 unknown", x.may(12), UNKNOWN);
        Object[][] cases = {{"a>17", 18, 0, 0, 1}, {"a>17", 17, 99, 0, 0}, {"a<18", 17, 0, 0, 1}, {"a<18", 18, 0, 0, 0},
            {"a=18", 18, 0, 0, 1}, {"a=18", 19, 0, 0, 0}, {"a=018", 18, 0, 0, 1}, {"y>4", 0, 5, 0, 1}, {"y>4", 99, 4, 0, 0},
            {"b=0", 0, 0, 1, 0}, {"b=1", 0, 0, 1, 1}, {"b<1", 0, 0, 0, 1}, {"a<999", 120, 0, 0, 1}, {"a>120", 120, 0, 0, 0},
            {"a>17&b=0", 18, 0, 1, 0}, {"a>17&b=0", 18, 0, 0, 1}, {"a>17|b=1", 17, 0, 1, 1}, {"a>17|b=1", 17, 0, 0, 0},
            {"a=1|a=2&b=1", 1, 0, 0, 1}, {"a=1&b=1|a=2", 2, 0, 0, 1}, {"a=1&b=1|a=2", 1, 0, 0, 0},
            {"a=1&b=1|a=2&b=0|y=3", 9, 3, 0, 1}, {"a=1|y=9|b=1", 2, 8, 0, 0}, {"a>10&a<20&a>15", 17, 0, 0, 1},
            {"a>10&a<20&a>17", 17, 0, 0, 0}};
        for (Object[] c : cases) {
            int got = mayBy((String) c[0], (Integer) c[1], (Integer) c[2], (Integer) c[3]);
            DUE.is("16 " + java.util.Arrays.toString(c), got, (Integer) c[4]);
        }
    }

    private static void close() {
        WallCount x = new WallCount();
        DUE.is("17 at first", x.close(0), 100);
        DUE.is("17 least", x.close(999), 0);
        DUE.is("17 below", x.close(-1), OUTSIDE);
        DUE.is("17 beyond", x.close(1000), OUTSIDE);
        DUE.is("17 it stays", x.count(4), 999);
    }

    private static void row() {
        WallCount x = new WallCount();
        DUE.is("18 first", x.row(0, 0, 0, 0), 0);
        DUE.is("18 second", x.row(11, 1000000, 1000000, 999), 1);
        DUE.is("18 unknown", x.row(12, 0, 0, 0), UNKNOWN);
        DUE.is("18 unknown first", x.row(-1, -1, 0, 0), UNKNOWN);
        int[][] outside = {{-1, 0, 0}, {1000001, 0, 0}, {0, -1, 0}, {0, 1000001, 0}, {0, 0, -1}, {0, 0, 1000}};
        for (int[] o : outside) {
            DUE.is("18 outside", x.row(0, o[0], o[1], o[2]), OUTSIDE);
        }
        DUE.is("18 none of them stands", x.count(0), 2);
        DUE.is("18 as it came", x.ofRow(1, 1), 1000000);
        DUE.is("18 a proof of zeros that does not hold", x.ofRow(0, 4), 2);
        DUE.is("18 a proof of zeros that holds", x.ofRow(x.row(5, 3, 2203, 100), 4), 0);
        fill(x, 27);
        DUE.is("18 all thirty", x.count(0), 30);
        DUE.is("18 full", x.row(0, 0, 0, 0), FULL);
        DUE.is("18 full, unknown first", x.row(12, 0, 0, 0), UNKNOWN);
        DUE.is("18 full, outside first", x.row(0, -1, 0, 0), OUTSIDE);
        DUE.is("18 thirty still", x.count(0), 30);
    }

    private static void attach() {
        WallCount x = new WallCount();
        x.key(3, 17, 29, 31);
        DUE.is("19 no row", x.attach(0, 0, 0, 0, 0), UNKNOWN);
        x.row(1, 7381, 7423, 5);
        DUE.is("19 spoilt before", x.ofRow(0, 4), 2);
        for (int place = 0; place < 4; place++) {
            for (int wrong : new int[] {-1, 1000001}) {
                int[] o = {4574, 1900, 303, 404};
                o[place] = wrong;
                DUE.is("19 outside", x.attach(0, o[0], o[1], o[2], o[3]), OUTSIDE);
            }
        }
        DUE.is("19 unknown first", x.attach(1, -1, 0, 0, 0), UNKNOWN);
        DUE.is("19 unknown", x.attach(-1, 0, 0, 0, 0), UNKNOWN);
        DUE.is("19 told", x.attach(0, 4574, 1900, 303, 404), 1);
        DUE.is("19 it counts", x.ofRow(0, 4), 0);
        DUE.is("19 told already", x.attach(0, 4574, 1900, 303, 405), STATE);
        DUE.is("19 outside before state", x.attach(0, 4574, 1900, 303, 1000001), OUTSIDE);
        DUE.is("19 it counts still", x.ofRow(0, 4), 0);
        x.cast(2, 1, 5, 1, 1, 1, 1);
        DUE.is("19 made by cast", x.attach(1, 0, 0, 0, 0), STATE);
        x.row(3, 3, 2203, 5);
        DUE.is("19 most", x.attach(2, 1000000, 1000000, 1000000, 1000000), 1);
        DUE.is("19 the wrong proof spoils", x.ofRow(2, 4), 2);
        x.row(4, 7381, 7423, 5);
        DUE.is("19 Q more", x.attach(3, 4574 + 5003, 1900, 303, 404), 1);
        DUE.is("19 Q more is spoilt", x.ofRow(3, 4), 2);
        x.row(5, 3, 2203, 5);
        DUE.is("19 zeros are told too", x.attach(4, 0, 0, 0, 0), 1);
        DUE.is("19 zeros were told", x.attach(4, 0, 0, 0, 0), STATE);
        DUE.is("19 zeros hold here", x.ofRow(4, 4), 0);
    }

    private static void cast() {
        WallCount x = new WallCount();
        x.key(3, 17, 29, 31);
        DUE.is("20 first", x.cast(4, 1, 50, 101, 202, 303, 404), 0);
        DUE.all("20 what it is", new long[] {x.ofRow(0, 0), x.ofRow(0, 1), x.ofRow(0, 2), x.ofRow(0, 3), x.ofRow(0, 4)},
            4, 7381, 9678, 50, 0);
        DUE.is("20 a no", x.cast(5, 0, 50, 101, 202, 303, 404), 1);
        DUE.is("20 a no's B", x.ofRow(1, 2), 7423);
        DUE.is("20 a no counts", x.ofRow(1, 4), 0);
        DUE.is("20 unknown", x.cast(12, 0, 0, 0, 0, 0, 0), UNKNOWN);
        DUE.is("20 unknown first", x.cast(-1, 2, 0, 0, 0, 0, 0), UNKNOWN);
        int[] most = {1, 999, 5002, 5002, 5002, 5002};
        for (int place = 0; place < 6; place++) {
            for (int wrong : new int[] {-1, most[place] + 1}) {
                int[] o = new int[6];
                o[place] = wrong;
                DUE.is("20 outside, place " + place, x.cast(0, o[0], o[1], o[2], o[3], o[4], o[5]), OUTSIDE);
            }
        }
        DUE.is("20 none of them stands", x.count(0), 2);
        DUE.is("20 most", x.cast(11, 1, 999, 5002, 5002, 5002, 5002), 2);
        fill(x, 27);
        DUE.is("20 full", x.cast(0, 0, 0, 0, 0, 0, 0), FULL);
        DUE.is("20 full, outside first", x.cast(0, 2, 0, 0, 0, 0, 0), OUTSIDE);
    }

    private static void ofRow() {
        WallCount x = new WallCount();
        x.row(0, 0, 0, 0);
        x.row(11, 1000000, 1000000, 999);
        DUE.all("21 first", rowOf(x, 0), 0, 0, 0, 0, 2, 563, 10570);
        DUE.all("21 second", rowOf(x, 1), 11, 1000000, 1000000, 999, 1, 2310, 778085);
        DUE.is("21 unknown", x.ofRow(-1, 0), UNKNOWN);
        DUE.is("21 unknown first", x.ofRow(2, 7), UNKNOWN);
        DUE.is("21 outside", x.ofRow(0, -1), OUTSIDE);
        DUE.is("21 outside", x.ofRow(1, 7), OUTSIDE);
    }

    private static long[] rowOf(WallCount x, int row) {
        long[] all = new long[7];
        for (int what = 0; what < 7; what++) {
            all[what] = x.ofRow(row, what);
        }
        return all;
    }

    private static long[] kindsOf(WallCount x) {
        long[] kinds = new long[x.count(0)];
        for (int row = 0; row < kinds.length; row++) {
            kinds[row] = x.ofRow(row, 4);
        }
        return kinds;
    }

    /** What a ROW is: the first of LATE, SPOILT, BARRED, OLD that fits, or it COUNTS. */
    private static void kinds() {
        WallCount x = new WallCount();
        x.cast(1, 1, 100, 1, 1, 1, 1);
        DUE.all("21 at CLOSE", kindsOf(x), 0);
        x.cast(1, 1, 101, 1, 1, 1, 1);
        DUE.all("21 a late one makes none old", kindsOf(x), 0, 1);
        x.row(1, 5, 5, 100);
        DUE.all("21 a spoilt one makes none old", kindsOf(x), 0, 1, 2);
        x.row(1, 5, 5, 101);
        DUE.all("21 late before spoilt", kindsOf(x), 0, 1, 2, 1);
        x.cast(2, 1, 5, 1, 1, 1, 1);
        DUE.all("21 another's makes none old", kindsOf(x), 0, 1, 2, 1, 0);
        x.cast(1, 0, 5, 2, 1, 1, 1);
        DUE.all("21 the last right one counts", kindsOf(x), 4, 1, 2, 1, 0, 0);
        x.voter(1, 2, 1);
        DUE.all("21 without a rule all may", kindsOf(x), 4, 1, 2, 1, 0, 0);
        say(x, "b=0");
        x.rule();
        DUE.all("21 barred before old", kindsOf(x), 3, 1, 2, 1, 0, 3);
        x.voter(1, 2, 0);
        x.close(4);
        DUE.all("21 all late", kindsOf(x), 1, 1, 1, 1, 1, 1);
        x.close(101);
        DUE.all("21 in time again", kindsOf(x), 4, 4, 2, 2, 0, 0);
        DUE.all("33 of each", new long[] {x.count(10), x.count(11), x.count(12), x.count(13), x.count(14)}, 2, 0, 2, 0, 2);
    }

    private static void find() {
        WallCount x = new WallCount();
        DUE.is("22 no row", x.find(563, 0), NONE);
        x.row(0, 0, 0, 0);
        x.row(1, 0, 0, 0);
        x.row(0, 0, 0, 0);
        DUE.is("22 first", x.find(563, 0), 0);
        DUE.is("22 from it on", x.find(563, 1), 2);
        DUE.is("22 that one", x.find(563, 2), 2);
        DUE.is("22 behind", x.find(563, 3), NONE);
        DUE.is("22 most", x.find(563, 30), NONE);
        DUE.is("22 below", x.find(563, -1), OUTSIDE);
        DUE.is("22 beyond", x.find(563, 31), OUTSIDE);
        DUE.is("22 no such word", x.find(564, 0), NONE);
        DUE.is("22 never a word", x.find(-6, 0), NONE);
        DUE.is("22 never a word", x.find(Integer.MAX_VALUE, 0), NONE);
    }

    private static void tally() {
        WallCount x = new WallCount();
        x.key(2, 17, 29, 0);
        DUE.all("23 none", new long[] {x.tally(0), x.tally(1), x.tally(2)}, 1, 1, 0);
        int[] votes = {1, 0, 1, 1, 0, 1, 1};
        for (int i = 0; i < votes.length; i++) {
            x.cast(i, votes[i], 10, 100 + i, 7, 8, 9);
        }
        DUE.is("23 how many", x.tally(2), 7);
        DUE.is("23 the sum, sealed", x.tally(0), x.seal(5, 721, 0));
        DUE.is("23 the sum, sealed", x.tally(1), x.seal(5, 721, 1));
        DUE.is("23 the sum", x.opened(x.tally(0), x.tally(1), 36, 1), 5);
        x.cast(0, 0, 10, 300, 7, 8, 9);
        x.cast(1, 1, 101, 300, 7, 8, 9);
        x.row(2, 5, 5, 10);
        DUE.is("23 the last right ones", x.opened(x.tally(0), x.tally(1), 36, 1), 4);
        DUE.is("23 how many of those", x.tally(2), 7);
        DUE.is("23 outside", x.tally(-1), OUTSIDE);
        DUE.is("23 outside", x.tally(3), OUTSIDE);
    }

    private static void copy() {
        WallCount x = new WallCount();
        DUE.is("24 below", x.copy(-1), OUTSIDE);
        DUE.is("24 beyond", x.copy(9973), OUTSIDE);
        DUE.is("24 least", x.copy(0), 1);
        for (int i = 2; i <= 30; i++) {
            DUE.is("24 how many", x.copy(9972), i);
        }
        DUE.is("24 full", x.copy(0), FULL);
        DUE.is("24 full, outside first", x.copy(9973), OUTSIDE);
        DUE.is("24 it stays", x.count(5), 30);
    }

    private static void parted() {
        WallCount x = new WallCount();
        DUE.is("25 both empty", x.parted(), NONE);
        x.row(0, 0, 0, 0);
        DUE.is("25 no copy", x.parted(), NONE);
        x.copy(563);
        DUE.is("25 alike", x.parted(), NONE);
        x.copy(77);
        x.copy(78);
        DUE.is("25 the wall is the beginning", x.parted(), NONE);
        x.row(0, 0, 0, 0);
        DUE.is("25 the second is not alike", x.parted(), 1);
        x.row(0, 0, 0, 0);
        DUE.is("25 the first that is not alike", x.parted(), 1);
        WallCount y = new WallCount();
        y.copy(1);
        DUE.is("25 no wall", y.parted(), NONE);
        y.row(0, 0, 0, 0);
        DUE.is("25 the first is not alike", y.parted(), 0);
    }
}
