/**
 * The TEXTS of LAWS at their edges: where each byte goes on and where it is the FAULT, how many are open,
 * what wraps, what is divided by 0, which LINE counts, and what a WEIGHT is held within.
 */
public final class EdgesOfTextsTest {
    private static final String NAMES = "wcpntki", DIGITS = "0123456789", JOINTS = "+-*/%<=>&|";

    public static void main(String[] args) {
        everyByteAtFirst();
        everyByteBehindAName();
        everyByteBehindANumber();
        everyByteInside();
        everyByteBehindAComparison();
        everyByteBehindAQuestion();
        endsTooEarly();
        digits();
        sixAreOpen();
        sevenAreNot();
        openInEveryPart();
        held();
        wraps();
        towardZero();
        byZero();
        oneOrZero();
        allIsWorkedOut();
        lines();
        names();
        Check.end("EdgesOfTextsTest");
    }

    /** The FAULT of a text; -1: it is a LAW. */
    private static void fault(String text, int place) {
        EightWorlds x = new EightWorlds();
        Check.due("FAULT of " + text, Check.law(x, text), place < 0 ? 0 : -100 - place);
        Check.due("THE TAPE is empty then", x.count(3), 0);
        Check.due("LAWS behind " + text, x.count(1), place < 0 ? 1 : 0);
    }

    /** All 256 bytes behind a text: those that end it rightly, those with which it goes on, and all others. */
    private static void every(String ahead, String behind, String ends, String goesOn) {
        for (char sign = 0; sign < 256; sign++) {
            int place = ends.indexOf(sign) >= 0 ? -1 : goesOn.indexOf(sign) >= 0 ? ahead.length() + 1 : ahead.length();
            if (behind.isEmpty()) {
                fault(ahead + sign, place);
            } else if (ends.indexOf(sign) >= 0) {
                fault(ahead + sign + behind, -1);
            } else if (goesOn.indexOf(sign) < 0) {
                fault(ahead + sign + behind, place);
            }
        }
    }

    private static void everyByteAtFirst() {
        every("", "", NAMES + DIGITS, "(!-");
        every("w;", "", NAMES + DIGITS, "(!-");
        every("w+", "", NAMES + DIGITS, "(!-");
        every("w<", "", NAMES + DIGITS, "(!-");
        every("w&", "", NAMES + DIGITS, "(!-");
        every("!", "", NAMES + DIGITS, "(!-");
        every("-", "", NAMES + DIGITS, "(!-");
        every("(", ")", NAMES + DIGITS, "(!-");
    }

    private static void everyByteBehindAName() {
        for (char name : NAMES.toCharArray()) {
            every("" + name, "", "", JOINTS + "?;");
            every("" + name, "7", JOINTS + "?;", "");
        }
        every("(w)", "", "", JOINTS + "?;");
        every("!w", "", "", JOINTS + "?;");
        every("w|w", "", "", JOINTS + "?;");
    }

    private static void everyByteBehindANumber() {
        every("0", "", DIGITS, JOINTS + "?;");
        every("999", "", DIGITS, JOINTS + "?;");
        every("9999", "", "", JOINTS + "?;");
        every("w*0000", "", "", JOINTS + "?;");
    }

    private static void everyByteInside() {
        every("(w", "", ")", JOINTS);
        every("((w", ")", ")", JOINTS);
        every("(1", "", ")", JOINTS + DIGITS);
        every("(1<2", "", ")", "+-*/%&|" + DIGITS);
        every("(w)<(w)", "", "", "+-*/%&|?;");
    }

    private static void everyByteBehindAComparison() {
        for (String sign : new String[] {"<", "=", ">"}) {
            every("w" + sign + "c", "", "", "+-*/%&|?;");
            every("w" + sign + "c&p", "", "", JOINTS + "?;");
            every("w" + sign + "c|p", "", "", JOINTS + "?;");
            every("w" + sign + "c?p", "", "", JOINTS + ";");
            every("w" + sign + "c;p", "", "", JOINTS + "?;");
        }
    }

    private static void everyByteBehindAQuestion() {
        every("w?", "", NAMES + DIGITS, "(!-");
        every("w?c", "", "", JOINTS + ";");
        every("w?c;p", "", "", JOINTS + "?;");
        every("w?(c", "", ")", JOINTS);
        fault("(w?c)", 2);
        fault("(w;c)", 2);
        fault("w?c?p", 3);
    }

    private static void endsTooEarly() {
        for (String text : new String[] {"", "(", "!", "-", "w+", "w*", "w%", "w<", "w=", "w&", "w|", "w?", "w;", "(w",
            "((w)", "w?c;", "0?1;2?", "!!!!!!", "((((((", "w-(c*(p", "12+"}) {
            fault(text, text.length());
        }
        fault("w+".repeat(60), 120);
        fault("(w)+".repeat(29) + "(w+w", 120);
        fault("w;".repeat(60), 120);
    }

    private static void digits() {
        for (String number : new String[] {"0", "9", "10", "99", "100", "999", "1000", "9999", "0000", "0009"}) {
            fault(number, -1);
            weighs(number, Integer.parseInt(number));
        }
        fault("10000", 4);
        fault("00000", 4);
        fault("99999", 4);
        fault("(12345)", 5);
        fault("w?12345", 6);
        fault("1+2345*67890", 11);
    }

    private static void sixAreOpen() {
        for (String text : new String[] {"((((((w))))))", "!!!!!!w", "------w", "!-!-!-7", "(!(-(!w)))", "-----(w)",
            "((((((w-w))))))", "((((((w))))))*((((((w))))))", "!!!!!!w-!!!!!!w", "((((((w)))))*(w))",
            "(((((w)*(w)))))", "((((((w|w))))))", "(-(-(-w)))", "-w-w-w-w-w-w-w-w", "!w+!w+!w+!w+!w+!w+!w",
            "(w)+(w)+(w)+(w)+(w)+(w)+(w)"}) {
            fault(text, -1);
        }
    }

    private static void sevenAreNot() {
        fault("(((((((w)))))))", 6);
        fault("!!!!!!!w", 6);
        fault("-------w", 6);
        fault("((((((!w))))))", 6);
        fault("((((((-w))))))", 6);
        fault("!!!!!!(w)", 6);
        fault("------(w)", 6);
        fault("-(-(-(-w)))", 6);
        fault("(((((!(w))))))", 6);
        fault("((((((w--w))))))", 8);
        fault("((((((w*(w)))))))", 8);
        fault("((((((w)))))*((w)))", -1);
        fault("((((((w)))))*((((((w)))))))", 18);
        fault("w-!!!!!!!w", 8);
        fault("w--------w", 8);
        fault("w<!!!!!!!w", 8);
        fault("(((((((", 6);
        fault("!!!!!!!", 6);
    }

    /** Each E, in every LINE and on both sides of a question, opens as many. */
    private static void openInEveryPart() {
        fault("((((((w))))))?((((((c))))))", -1);
        fault("w?((((((c))))))", -1);
        fault("w?(((((((c", 8);
        fault("w?!!!!!!c", -1);
        fault("w?!!!!!!!c", 8);
        fault("w?0;------c", -1);
        fault("w?0;-------c", 10);
        fault("0;((((((c))))))", -1);
        fault("0;(((((((c", 8);
        fault("0;((((((c))))))?((((((c))))));((((((c))))))", -1);
        fault("w|((((((c))))))&((((((c))))))<((((((c))))))", -1);
        fault("w|(((((((c", 8);
        weighs("0?1;((((((2))))))?((((((w+3))))))", 303);
        weighs("------7", 7);
        weighs("-----(0-7)", 7);
        weighs("!!!!!!7", 1);
        weighs("!!!!!7", 0);
    }

    /** WEIGHT of SONG 1 (WORTH 300) of three, COUNTS 9, 20, 0, when five came and two of them kept one. */
    private static void weighs(String text, int due) {
        EightWorlds x = Check.withSongs(100, 300, 500);
        Check.due("LAW " + text, Check.law(x, text), 0);
        x.world(1, 0, 1);
        Check.counts(x, 0, 8, 19, 0);
        Check.keep(x, 0, 1, -1, -1, 0, -1);
        Check.due("WEIGHT by " + text, x.weight(0, 1), due);
    }

    private static void held() {
        weighs("9998", 9998);
        weighs("9998+1", 9999);
        weighs("9999+1", 9999);
        weighs("9999*9999", 9999);
        weighs("1024*1024*1024*2-1", 9999);
        weighs("0", 0);
        weighs("1-1", 0);
        weighs("0-1", 0);
        weighs("-9999", 0);
        weighs("1024*1024*1024*2", 0);
    }

    private static void wraps() {
        weighs("1024*1024*1024*2<0", 1);
        weighs("1024*1024*1024*2-1>0", 1);
        weighs("1024*1024*1024*2-1+1<0", 1);
        weighs("1024*1024*1024*4", 0);
        weighs("1024*1024*1024*4+5", 5);
        weighs("-(1024*1024*1024*2)<0", 1);
        weighs("-(1024*1024*1024*2)=1024*1024*1024*2", 1);
        weighs("1024*1024*1024*2/-1<0", 1);
        weighs("1024*1024*1024*2%-1=0", 1);
        weighs("1024*1024*1024*2<1", 1);
        weighs("1024*1024*1024*2>1", 0);
        weighs("1<1024*1024*1024*2", 0);
        // 9999 * 9999 * 22 is 2199560022, less 4294967296
        weighs("-(9999*9999*22%1000)", 274);
    }

    private static void towardZero() {
        weighs("7/2", 3);
        weighs("-7/2+10", 7);
        weighs("7/-2+10", 7);
        weighs("-7/-2", 3);
        weighs("-1/2+1", 1);
        weighs("7%3", 1);
        weighs("-7%3+10", 9);
        weighs("7%-3", 1);
        weighs("-7%-3+10", 9);
        weighs("6%3", 0);
    }

    private static void byZero() {
        weighs("5/0", 0);
        weighs("5%0", 0);
        weighs("0/0", 0);
        weighs("0%0", 0);
        weighs("5/0+3", 3);
        weighs("5%0+3", 3);
        weighs("-5/0+3", 3);
        weighs("1024*1024*1024*2/0+3", 3);
        weighs("1024*1024*1024*2%(w-w)+3", 3);
        weighs("5/(1/2)*7+3", 3);
    }

    private static void oneOrZero() {
        String[] texts = {"1|2", "2|0", "0|2", "0|0", "1|1", "2&4", "1&1", "1&0", "0&1", "0&0", "7&0", "0&7", "-1&-1",
            "1<2", "2<2", "3<2", "1=2", "2=2", "3=2", "1>2", "2>2", "3>2", "!0", "!1", "!2", "!-1", "!!2", "!!0",
            "-1|0", "-1<0", "-1>0", "0|0|9", "9&9&0", "9&9&9", "9|0&0", "0&0|9", "0&9|0"};
        int[] due = {1, 1, 1, 0, 1, 1, 1, 0, 0, 0, 0, 0, 1,
            1, 0, 0, 0, 1, 0, 0, 0, 1, 1, 0, 0, 0, 1, 0,
            1, 1, 0, 1, 0, 1, 1, 1, 0};
        for (int i = 0; i < texts.length; i++) {
            weighs(texts[i], due[i]);
            weighs("(" + texts[i] + ")*50+3", due[i] * 50 + 3);
        }
    }

    /** What is divided by 0 in a part that settles nothing any more. */
    private static void allIsWorkedOut() {
        weighs("1|1/0", 1);
        weighs("0&1/0", 0);
        weighs("0?1/0;4", 4);
        weighs("1/0?4;1%0?5;6", 6);
        weighs("(1<2)=(3>2)", 1);
        weighs("1<2&3<4", 1);
        weighs("2+3<2*3", 1);
        weighs("0|1=1", 1);
    }

    private static void lines() {
        weighs("0?1;0?2;0?3", 0);
        weighs("0?1", 0);
        weighs("0?1;2", 2);
        weighs("1?2;3", 2);
        weighs("-1?2;3", 2);
        weighs("7?2;3", 2);
        weighs("1?0;3", 0);
        weighs("0;3", 0);
        weighs("5;1?6;7", 5);
        weighs("0?5;6;7", 6);
        weighs("0?1;1?2;1?3;4", 2);
        weighs("w>300?1;w<300?2;w=300?3;4", 3);
        weighs("0?1;".repeat(29) + "1?22", 22);
    }

    private static void names() {
        int[] due = {300, 20, 0, 3, 5, 2, 1};
        for (int i = 0; i < 7; i++) {
            weighs("" + NAMES.charAt(i), due[i]);
            weighs(NAMES.charAt(i) + "*10+7", due[i] * 10 + 7);
        }
    }
}
