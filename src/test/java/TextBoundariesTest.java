/** Boundary cases of TAPE and texts: promises 2, 3, 5, 6 and 7, and what 'Terms' says of RULES and WAYS. */
public final class TextBoundariesTest {
    private static final int BLANKS = 0x20202020;

    private static void rightRule(String text) {
        DarkSitting x = new DarkSitting();
        Trial.is("promise 5: " + text, 0, Trial.rule(x, text));
        Trial.is("promise 7: fault of " + text, Trial.NONE, x.fault());
    }

    private static void rightWay(String text) {
        DarkSitting x = new DarkSitting();
        Trial.is("promise 6: " + text, 0, Trial.way(x, text));
        Trial.is("promise 7: fault of " + text, Trial.NONE, x.fault());
    }

    /** The text is wrong at a byte; the TAPE is used up, all else is as it was. */
    private static void wrongRule(String text, int at) {
        DarkSitting x = Trial.some();
        x.end(0);
        Trial.write(x, text);
        Trial.throwing("promise 5: " + text, Trial.ARGUMENT, x::rule);
        afterWrong(x, text, at);
    }

    private static void wrongWay(String text, int at) {
        DarkSitting x = Trial.some();
        x.end(0);
        Trial.write(x, text);
        Trial.throwing("promise 6: " + text, Trial.ARGUMENT, x::way);
        afterWrong(x, text, at);
    }

    private static final String SOME_ROWS = Portrait.ofRows(Trial.some());

    private static void afterWrong(DarkSitting x, String text, int at) {
        Trial.is("promise 7: fault of " + text, at, x.fault());
        Trial.is("the tape is used up by " + text, false, x.end(1));
        Trial.is("nothing else changes by " + text, SOME_ROWS, Portrait.ofRows(x));
    }

    private static void needHolds(boolean due, String need) {
        DarkSitting x = new DarkSitting();
        Trial.rule(x, "");
        Trial.way(x, "need " + need);
        Trial.is("promise 10: " + need, due, x.needs(0, 0, 0, 0, false));
    }

    private static int feedBlanks(DarkSitting x) {
        return x.feed(BLANKS, BLANKS, BLANKS, BLANKS, BLANKS);
    }

    /** "NONE, and none come, if it would have more than 400." */
    private static void promise2Most() {
        DarkSitting x = new DarkSitting();
        x.feed(0x6c617374, 0x20372020, BLANKS, BLANKS, BLANKS);
        for (int many = 40; many <= 400; many += 20) {
            Trial.is("promise 2: up to 400", many, feedBlanks(x));
        }
        Trial.is("promise 2: more than 400", Trial.NONE, x.feed(-1, -1, -1, -1, -1));
        Trial.is("promise 2: more than 400 once more", Trial.NONE, x.feed(0, 0, 0, 0, 0));
        Trial.is("promise 2: none came, it has 400", true, x.end(400));
        Trial.is("promise 2: none came over what was there", 0, x.rule());
        Trial.is("promise 2: the text is what it was", 7, x.look(0, 0));

        DarkSitting y = new DarkSitting();
        for (int many = 20; many <= 400; many += 20) {
            feedBlanks(y);
        }
        Trial.is("promise 2: cut to 381", true, y.end(381));
        Trial.is("promise 2: 401 are too many", Trial.NONE, y.feed(-1, -1, -1, -1, -1));
        Trial.is("promise 2: not one of them came", false, y.end(382));
        Trial.is("promise 2: 381 are left", true, y.end(381));
        Trial.is("promise 2: cut to 380", true, y.end(380));
        Trial.is("promise 2: 400 are not too many", 400, feedBlanks(y));
        Trial.is("promise 2: 400 blanks have no line", 0, y.rule());
        Trial.is("promise 2: behind a text that was used up", 20, feedBlanks(y));
    }

    /** "of each number the highest first": each of the twenty bytes is found at its place. */
    private static void promise2Order() {
        for (int at = 0; at < 20; at++) {
            for (int sign : new int[] {'A', 0, 127, 128, 255}) {
                int[] n = {BLANKS, BLANKS, BLANKS, BLANKS, BLANKS};
                int shift = 24 - at % 4 * 8;
                n[at / 4] = n[at / 4] & ~(255 << shift) | sign << shift;
                DarkSitting x = new DarkSitting();
                Trial.is("promise 2: twenty bytes", 20, x.feed(n[0], n[1], n[2], n[3], n[4]));
                Trial.throwing("promise 2: byte " + sign + " at " + at, Trial.ARGUMENT, x::rule);
                Trial.is("promise 2: byte " + sign + " at " + at, at, x.fault());
            }
        }
    }

    /** "false, and nothing happens, if it has fewer, or n is below 0." */
    private static void promise3() {
        DarkSitting x = new DarkSitting();
        Trial.is("promise 3: nothing of nothing", true, x.end(0));
        Trial.is("promise 3: one of nothing", false, x.end(1));
        Trial.is("promise 3: below 0 of nothing", false, x.end(-1));
        for (int n : new int[] {-1, 21, 400, 401, Trial.MIN, Trial.MAX}) {
            DarkSitting y = new DarkSitting();
            y.feed(0x6c617374, 0x20333030, BLANKS, BLANKS, BLANKS);
            Trial.is("promise 3: end " + n + " of 20", false, y.end(n));
            Trial.is("promise 3: it has 20 still", 40, feedBlanks(y));
            Trial.is("promise 3: as it was", 0, y.rule());
            Trial.is("promise 3: as it was", 300, y.look(0, 0));
        }
        DarkSitting z = new DarkSitting();
        z.feed(0x6c617374, 0x20333030, BLANKS, BLANKS, BLANKS);
        Trial.is("promise 3: all of 20", true, z.end(20));
        Trial.is("promise 3: 7 of 20", true, z.end(7));
        Trial.is("promise 3: all of 7", true, z.end(7));
        Trial.is("promise 3: 8 of 7", false, z.end(8));
        Trial.is("promise 3: its first bytes alone", 0, z.rule());
        Trial.is("promise 3: last 30", 30, z.look(0, 0));
        Trial.is("promise 3: used up", false, z.end(1));
        Trial.is("promise 3: nothing of what was used up", true, z.end(0));
    }

    /** "hold LIMB by PERSON", LIMB 0 to 3, PERSON 1 to 7. */
    private static void promise5Hold() {
        rightRule("hold 0 by 1");
        rightRule("hold 3 by 7");
        wrongRule("hold 4 by 1", 5);
        wrongRule("hold 999 by 1", 5);
        wrongRule("hold 0 by 0", 10);
        wrongRule("hold 0 by 8", 10);
        wrongRule("hold 3 by 8;last 1", 10);
        wrongRule("hold -1 by 1", 5);
    }

    /** "tie LIMB NUMBER", NUMBER 0 to 99. */
    private static void promise5Tie() {
        rightRule("tie 0 0");
        rightRule("tie 3 99");
        wrongRule("tie 4 0", 4);
        wrongRule("tie 0 100", 6);
        wrongRule("tie 3 999", 6);
        wrongRule("tie 3 1000", 6);
        wrongRule("tie 3 0000", 6);
        wrongRule("tie 3 -1", 6);
    }

    /** "lit NUMBER to NUMBER", 0 to 300 each, the second not below the first. */
    private static void promise5Lit() {
        rightRule("lit 0 to 0");
        rightRule("lit 0 to 300");
        rightRule("lit 300 to 300");
        rightRule("lit 7 to 7");
        rightRule("lit 7 to 8");
        wrongRule("lit 7 to 6", 9);
        wrongRule("lit 300 to 299", 11);
        wrongRule("lit 1 to 0", 9);
        wrongRule("lit 301 to 301", 4);
        wrongRule("lit 300 to 301", 11);
        wrongRule("lit 0 to 301", 9);
        wrongRule("lit 0 to 1000", 9);
        wrongRule("lit 1000 to 300", 4);
    }

    /** "last NUMBER", 1 to 300. */
    private static void promise5Last() {
        rightRule("last 1");
        rightRule("last 300");
        rightRule("last 001");
        wrongRule("last 0", 5);
        wrongRule("last 000", 5);
        wrongRule("last 301", 5);
        wrongRule("last 999", 5);
        wrongRule("last 1000", 5);
        wrongRule("last 0001", 5);
        wrongRule("last 99999999999999999999", 5);
    }

    /** "LINE { ; LINE }, at most 10"; "of an 11th LINE its first word". */
    private static void promise5Lines() {
        for (int lines = 1; lines <= 10; lines++) {
            DarkSitting x = new DarkSitting();
            Trial.rule(x, Trial.times("last 9", lines, ";"));
            Trial.is("promise 5: " + lines + " lines", lines, x.look(0, 2));
        }
        String ten = Trial.times("last 9", 10, ";");
        wrongRule(ten + ";last 9", 70);
        wrongRule(ten + " ;  last 9", 73);
        wrongRule(ten + ";last 301", 70);
        wrongRule(ten + ";nothing", 70);
        wrongRule(ten + ";;", 70);
        wrongRule(ten + ";", 70);
        wrongRule(ten + "; ", 71);
        wrongRule(ten + " last 9", 70);
        wrongRule(Trial.times("last 9", 9, ";") + ";last 0;last 9", 68);
        wrongRule(Trial.times("last 9", 9, ";") + ";", 63);
    }

    /** "A text that is empty, or blanks alone, has no LINE." */
    private static void promise5NoLine() {
        for (int blanks : new int[] {0, 1, 20, 399, 400}) {
            DarkSitting x = new DarkSitting();
            Trial.is("promise 5: " + blanks + " blanks", 0, Trial.rule(x, Trial.times(" ", blanks, "")));
            Trial.is("promise 5: no line", 0, x.look(0, 2));
            Trial.is("promise 6: " + blanks + " blanks", 0, Trial.way(x, Trial.times(" ", blanks, "")));
        }
        wrongRule(";", 0);
        wrongRule("  ;  ", 2);
        wrongWay(";", 0);
        wrongWay("  ;  ", 2);
        DarkSitting y = new DarkSitting();
        Trial.is("promise 5: a tape that was never fed", 0, y.rule());
        Trial.is("promise 6: a tape that was never fed", 0, y.way());
        Trial.is("promise 7: no wrong byte", Trial.NONE, y.fault());
    }

    /** "between all there may be blanks (32), also ahead and behind"; no other byte is one. */
    private static void promise5Blanks() {
        rightRule("hold0by1;tie1 2;lit3to4;last5");
        rightRule(" hold  0  by  1  ;  tie  1  2  ;  lit  3  to  4  ;  last  5  ");
        rightRule(Trial.times(" ", 394, "") + "last 7");
        rightRule("last" + Trial.times(" ", 395, "") + "7");
        rightRule("last 7" + Trial.times(" ", 394, ""));
        for (int sign : new int[] {0, 9, 10, 13, 31, 33, 127, 128, 160, 255}) {
            wrongRule((char) sign + "last 7", 0);
            wrongRule("last" + (char) sign + "7", 4);
            wrongRule("last 7" + (char) sign, 6);
            wrongWay("need dark" + (char) sign, 9);
        }
        rightWay("need(dark)and not(helped)or 1<2;free0");
        wrongRule("ho ld 0 by 1", 0);
        wrongRule("last 1 2", 7);
    }

    /** "Words are as long as a to z go on": the signs beside a, z, 0 and 9 are of none. */
    private static void promise5Words() {
        wrongRule("`last 1", 0);
        wrongRule("last`1", 4);
        wrongRule("{last 1", 0);
        wrongRule("last{1", 4);
        wrongRule("Last 1", 0);
        wrongRule("lasT 1", 0);
        wrongRule("lastz 1", 0);
        wrongRule("alast 1", 0);
        wrongRule("las 1", 0);
        wrongRule("lastlast 1", 0);
        wrongRule("hold 0 bya 1", 7);
        wrongRule("last /", 5);
        wrongRule("last :", 5);
        wrongRule("last 1/", 6);
        wrongRule("last 1:", 6);
        wrongRule("last 1a", 6);
        wrongWay("need @", 5);
        wrongWay("need Z", 5);
        wrongWay("need 1=2", 6);
        wrongWay("need 1*1<2", 6);
        wrongWay("need 1,1<2", 6);
        wrongWay("need 1<2:free 0", 8);
        wrongWay("need 1?2", 6);
    }

    /** "or the text's length, if more must come": each LINE broken off behind each of its parts. */
    private static void promise5More() {
        String[] whole = {"hold 0 by 1;", "tie 0 1;", "lit 0 to 1;", "last 1;"};
        for (String text : whole) {
            int[] behind = partsOf(text);
            for (int k = 0; k < behind.length; k++) {
                boolean isWhole = k == behind.length - 2;
                String part = text.substring(0, behind[k]);
                for (String broken : new String[] {part, part + "   "}) {
                    if (isWhole) {
                        rightRule(broken);
                    } else {
                        wrongRule(broken, broken.length());
                    }
                }
            }
        }
    }

    private static int[] partsOf(String text) {
        java.util.List<Integer> behind = new java.util.ArrayList<>();
        java.util.regex.Matcher m = java.util.regex.Pattern.compile("[a-z]+|[0-9]+|[^ ]").matcher(text);
        while (m.find()) {
            behind.add(m.end());
        }
        return behind.stream().mapToInt(Integer::intValue).toArray();
    }

    /** "UnsupportedOperationException: there are 4." */
    private static void promise5Full() {
        DarkSitting x = new DarkSitting();
        for (int k = 0; k < 4; k++) {
            Trial.is("promise 5: numbered from 0 on", k, Trial.rule(x, "last " + (k + 1)));
        }
        DarkSitting y = Trial.full();
        y.end(0);
        Trial.write(y, "last 5");
        Trial.throwing("promise 5: a fifth", Trial.FULL, y::rule);
        Trial.is("promise 5: the tape is used up", false, y.end(1));
        Trial.is("promise 7: the text was right", Trial.NONE, y.fault());
        Trial.is("promise 5: nothing else changes", Portrait.ofRows(Trial.full()), Portrait.ofRows(y));
        DarkSitting z = Trial.full();
        Trial.throwing("promise 5: a fifth that is wrong", Trial.ARGUMENT, z::rule);
        Trial.is("promise 7: where", Trial.LEFT_FAULT, z.fault());
        Trial.is("promise 5: the tape is used up", false, z.end(1));
        Trial.is("promise 5: nothing else changes", Portrait.ofRows(Trial.full()), Portrait.ofRows(z));
    }

    /** free LIMB, take 1 to 60, reach 1 to 9. */
    private static void promise6Lines() {
        rightWay("free 0");
        rightWay("free 3");
        wrongWay("free 4", 5);
        rightWay("take 1");
        rightWay("take 60");
        wrongWay("take 0", 5);
        wrongWay("take 61", 5);
        wrongWay("take 0060", 5);
        rightWay("reach 1");
        rightWay("reach 9");
        wrongWay("reach 0", 6);
        wrongWay("reach 10", 6);
        String ten = Trial.times("need dark", 10, ";");
        rightWay(ten);
        wrongWay(ten + ";need dark", 100);
        wrongWay(ten + ";  take 1", 102);
        wrongWay(ten + ";", 100);
        wrongWay(Trial.times("free 0", 10, ";") + " ; x", 72);
        wrongWay("last 1", 0);
        wrongRule("take 1", 0);
    }

    /** LIMBS in a need: 0 to 3, in each TAG and FACT that has one. */
    private static void promise6Limbs() {
        for (String tag : new String[] {"loose", "held", "tied", "tired"}) {
            rightWay("need " + tag + " 0");
            rightWay("need " + tag + "3");
            wrongWay("need " + tag + " 4", 6 + tag.length());
            wrongWay("need " + tag, 5 + tag.length());
            wrongWay("need " + tag + " second < 1", 6 + tag.length());
        }
        for (String fact : new String[] {"knows", "slack"}) {
            rightWay("need " + fact + " 0 < 1");
            rightWay("need 1 < " + fact + "3");
            wrongWay("need " + fact + " 4 < 1", 11);
            wrongWay("need 1 > " + fact + " 4", 15);
            wrongWay("need 1 > " + fact, 14);
            wrongWay("need " + fact + " < 1", 11);
        }
        wrongWay("need second 1 < 2", 12);
        wrongWay("need limbs 1 < 2", 11);
        wrongWay("need dark 1", 10);
        wrongWay("need helped 1", 12);
    }

    /** "NUMBER: 1 to 3 digits." */
    private static void promise6Numbers() {
        rightWay("need 0 < 999");
        rightWay("need 000 < 009");
        wrongWay("need 1000 < 1", 5);
        wrongWay("need 0000 < 1", 5);
        wrongWay("need 1 < 1000", 9);
        wrongWay("need 1 + 0999 < 1", 9);
        needHolds(true, "998 < 999");
        needHolds(false, "999 < 999");
        needHolds(false, "999 > 999");
        needHolds(true, "999 + 1 > 999");
        needHolds(false, "999 + 1 > 999 + 001");
        needHolds(true, "0 < 001");
        needHolds(false, "0 > 000");
        // As many as the TAPE has room for: 98 times 999, to be told from one more and one less.
        String most = Trial.times("999", 48, "+");
        needHolds(false, most + "<" + most);
        needHolds(false, most + ">" + most);
        needHolds(true, most + "<" + most + "+1");
        needHolds(true, most + "+1>" + most);
        needHolds(true, Trial.times("999", 97, "+") + ">999");
        needHolds(true, "0<" + Trial.times("9", 195, "+"));
    }

    /** "( and not within one another at most 6 deep"; "the ( or not that is a 7th one deep". */
    private static void promise6Deep() {
        for (int open = 0; open <= 6; open++) {
            String in = Trial.times("(", open, "");
            String nots = Trial.times("not ", 6 - open, "");
            String out = Trial.times(")", open, "");
            rightWay("need " + in + nots + "dark" + out);
            rightWay("need " + nots + in + "1 < 2" + out);
            int seventh = 5 + in.length() + nots.length();
            wrongWay("need " + in + nots + "(dark)" + out, seventh);
            wrongWay("need " + in + nots + "not dark" + out, seventh);
            wrongWay("need " + nots + in + "not dark" + out, seventh);
            wrongWay("need " + nots + in + "(dark)" + out, seventh);
        }
        rightWay("need ((((((dark)))))) and ((((((dark)))))) or ((((((dark))))))");
        rightWay("need not not not not not not dark and not not not not not not dark or not dark");
        rightWay("need (((((not dark and not dark) and not dark) or not dark) and not dark) or not dark)");
        rightWay("need " + Trial.times("not dark", 32, " or "));
        rightWay("need ((((((dark))))));need ((((((dark))))))");
        wrongWay("need ((((((dark and not dark))))))", 20);
        wrongWay("need ((((((dark or (dark)))))))", 19);
        wrongWay("need " + Trial.times("(", 395, ""), 11);
        wrongWay("need " + Trial.times("not ", 98, ""), 29);
        needHolds(true, "not not not not not not dark");
        needHolds(false, "not not not not not not 1 > 1");
        needHolds(false, "not(not(not(dark)))");
        needHolds(true, "((((((1 < 2))))))");
    }

    /** What must come in a C, and what cannot stand there. */
    private static void promise6Conditions() {
        String whole = "need ( not loose 0 and 1 + knows 1 < slack 2 + limbs ) or second > 5";
        int[] behind = partsOf(whole);
        for (int k = 0; k < behind.length - 1; k++) {
            String part = whole.substring(0, behind[k]);
            boolean mayEnd = part.endsWith(")");
            if (mayEnd) {
                rightWay(part);
            } else {
                wrongWay(part, part.length());
                wrongWay(part + " ", part.length() + 1);
                wrongWay(part + ";free 0", part.length());
            }
        }
        rightWay(whole);
        wrongWay("need dark)", 9);
        wrongWay("need (dark))", 11);
        wrongWay("need )", 5);
        wrongWay("need and", 5);
        wrongWay("need or dark", 5);
        wrongWay("need dark or and dark", 13);
        wrongWay("need dark not dark", 10);
        wrongWay("need dark (dark)", 10);
        wrongWay("need 1 < 2 > 3", 11);
        wrongWay("need + 1 < 2", 5);
        wrongWay("need 1 < + 2", 9);
        wrongWay("need < 1", 5);
        wrongWay("need not 1", 10);
        wrongWay("need need", 5);
        wrongWay("need free 0", 5);
        wrongWay("need dark + 1 < 2", 10);
        wrongWay("need 1 + dark < 2", 9);
        wrongWay("need (second) < 2", 12);
    }

    /** "UnsupportedOperationException: there are 6." */
    private static void promise6Full() {
        DarkSitting x = new DarkSitting();
        for (int k = 0; k < 6; k++) {
            Trial.is("promise 6: numbered from 0 on", k, Trial.way(x, "free 0"));
        }
        DarkSitting y = Trial.full();
        y.end(0);
        Trial.write(y, "free 0");
        Trial.throwing("promise 6: a seventh", Trial.FULL, y::way);
        Trial.is("promise 6: the tape is used up", false, y.end(1));
        Trial.is("promise 7: the text was right", Trial.NONE, y.fault());
        Trial.is("promise 6: nothing else changes", Portrait.ofRows(Trial.full()), Portrait.ofRows(y));
        DarkSitting z = Trial.full();
        Trial.throwing("promise 6: a seventh that is wrong", Trial.ARGUMENT, z::way);
        Trial.is("promise 7: where", 0, z.fault());
        Trial.is("promise 6: the tape is used up", false, z.end(1));
        Trial.is("promise 6: nothing else changes", Portrait.ofRows(Trial.full()), Portrait.ofRows(z));
    }

    /** "NONE without one, and ahead of any." */
    private static void promise7() {
        DarkSitting x = new DarkSitting();
        Trial.is("promise 7: ahead of any", Trial.NONE, x.fault());
        Trial.write(x, "x");
        Trial.is("promise 7: it has not been read yet", Trial.NONE, x.fault());
        Trial.throwing("promise 7: read", Trial.ARGUMENT, x::rule);
        Trial.is("promise 7: the first byte", 0, x.fault());
        Trial.is("promise 7: asked once more", 0, x.fault());
        Trial.write(x, Trial.times(" ", 399, "") + "x");
        Trial.is("promise 7: the latest that was read", 0, x.fault());
        Trial.throwing("promise 7: read", Trial.ARGUMENT, x::way);
        Trial.is("promise 7: the last byte of 400", 399, x.fault());
        Trial.write(x, Trial.times(" ", 396, "") + "need");
        Trial.throwing("promise 7: read", Trial.ARGUMENT, x::way);
        Trial.is("promise 7: the length of 400", 400, x.fault());
        Trial.throwing("promise 7: another call is refused", Trial.ARGUMENT, () -> x.person(-1, 0));
        Trial.is("promise 7: no text was read by that", 400, x.fault());
        Trial.way(x, "");
        Trial.is("promise 7: without one", Trial.NONE, x.fault());
        Trial.write(x, "last 1;");
        Trial.throwing("promise 7: read", Trial.ARGUMENT, x::rule);
        Trial.is("promise 7: the length", 7, x.fault());
        Trial.rule(x, "last 1");
        Trial.is("promise 7: without one", Trial.NONE, x.fault());
    }

    public static void main(String[] args) {
        promise2Most();
        promise2Order();
        promise3();
        promise5Hold();
        promise5Tie();
        promise5Lit();
        promise5Last();
        promise5Lines();
        promise5NoLine();
        promise5Blanks();
        promise5Words();
        promise5More();
        promise5Full();
        promise6Lines();
        promise6Limbs();
        promise6Numbers();
        promise6Deep();
        promise6Conditions();
        promise6Full();
        promise7();
        Trial.ends("TextBoundariesTest");
    }
}
