/** The edges that part II of the document names: the tape, TEXTS, FAULTS, laws and what is PLAYED. */
public final class EdgeTextTest {
    private static final int NONE = Edge.NONE;
    private static final String[] LAWS = {"wait", "stops", "long", "cold", "haste"};

    private EdgeTextTest() {
    }

    // ---- the tape ----

    private static int feedBlanks(LongLine x, int times) {
        int last = 0;
        for (int i = 0; i < times; i++) {
            last = x.feed(0x20202020, 0x20202020, 0x20202020, 0x20202020, 0x20202020);
        }
        return last;
    }

    private static void feed() {
        Edge.says("Twenty bytes come behind the tape, the highest of a first: how many it has.");
        LongLine x = new LongLine();
        // each byte at its place: "yes 0;go 1;go 2;rul" and "e"
        Edge.due("twenty", x.feed(0x79657320, 0x303b676f, 0x20313b67, 0x6f20323b, 0x72756c65), 20);
        Edge.due("forty", x.feed(0x20313b20, 0x20202020, 0x20202020, 0x20202020, 0x20202020), 40);
        Edge.due("read", x.text(), 0);
        Edge.ends(x, 1);
        Edge.due("played", x.played(0), NONE);
        Edge.dueRow("yes, go, go, rule", new int[] {x.said(NONE, 0), x.about(1), x.about(2)}, 1, 3, 1);
        LongLine high = new LongLine();
        high.feed(0xffffffff, 0x80000000, 0, 0, 0);
        high.text();
        Edge.dueRow("bytes above 127 are none", new int[] {high.fault(0), high.fault(1)}, 1, 0);
        Edge.says("NONE, and none come, if there would be more than 300.");
        Edge.takes("just 300", y -> feedBlanks(y, 14), y -> y.feed(1, 2, 3, 4, 5), NONE);
        Edge.refuses("320", y -> feedBlanks(y, 15), y -> y.feed(1, 2, 3, 4, 5), NONE, 1);
        Edge.refuses("301", y -> {
            feedBlanks(y, 15);
            y.end(281);
        }, y -> y.feed(1, 2, 3, 4, 5), NONE, 1);
        LongLine full = new LongLine();
        feedBlanks(full, 15);
        full.end(280);
        Edge.due("300", feedBlanks(full, 1), 300);
    }

    private static void end() {
        Edge.says("The tape has its first n bytes alone: n. NONE, and nothing is done, if it has not so many, or n is below 0.");
        Edge.takesJust(0, 20, y -> feedBlanks(y, 1), (y, n) -> y.end(n), NONE, 0);
        Edge.takesJust(0, 300, y -> feedBlanks(y, 15), (y, n) -> y.end(n), NONE, 0);
        Edge.takesJust(0, 0, y -> { }, (y, n) -> y.end(n), NONE, 0);
        LongLine x = new LongLine();
        Edge.putOnTape(x, "go 3;go 4");
        Edge.due("its first", x.end(5), 5);
        Edge.due("bytes", x.about(9), 5);
        Edge.due("read", x.text(), 0);
        x.played(0);
        Edge.due("the first ones", x.about(1), 3);
        LongLine y = new LongLine();
        Edge.putOnTape(y, "go 3");
        y.end(3);
        Edge.putOnTape(y, "7;");
        y.text();
        y.played(0);
        Edge.due("what comes is behind them", y.about(1), 7);
        Edge.due("all bytes gone", emptied().text(), 0);
        // what stands behind the first ones is not read on
        cutTo("goo 1;", 2, 1, 2);
        cutTo("wait 99999;", 9, 1, 9);
        cutTo("wait 1;;", 7, 0, NONE);
        cutTo("wait 1;who", 7, 0, NONE);
    }

    private static void cutTo(String text, int bytes, int fault, int place) {
        LongLine x = new LongLine();
        Edge.putOnTape(x, text);
        x.end(bytes);
        x.text();
        Edge.dueRow("FAULT and place of " + bytes + " bytes of " + text, new int[] {x.fault(0), x.fault(1)}, fault, place);
    }

    private static LongLine emptied() {
        LongLine x = new LongLine();
        Edge.putOnTape(x, "$$$$");
        x.end(0);
        return x;
    }

    private static void text() {
        Edge.says("The tape (empty then) is a TEXT: its number. NONE: it has a FAULT; or (the tape stays) there are 4.");
        LongLine x = new LongLine();
        for (int i = 0; i < 4; i++) {
            Edge.due("TEXT " + i, Edge.tell(x, "go " + (i + 1) + ";"), i);
            Edge.dueRow("TEXTS, bytes", new int[] {x.about(4), x.about(9)}, i + 1, 0);
        }
        for (int i = 0; i < 4; i++) {
            x.played(i);
        }
        Edge.due("each is as told", x.about(1), 10);
        Edge.refuses("a fifth", y -> {
            four(y);
            Edge.putOnTape(y, "go 1;");
        }, y -> y.text(), NONE, 1);
        Edge.refuses("a fifth with a FAULT, which is not read", y -> {
            four(y);
            Edge.putOnTape(y, "go");
        }, y -> y.text(), NONE, 1);
        LongLine z = new LongLine();
        four(z);
        Edge.putOnTape(z, "go");
        z.text();
        Edge.dueRow("TEXTS, bytes, FAULT", new int[] {z.about(4), z.about(9), z.fault(0)}, 4, 2, 0);
        LongLine f = new LongLine();
        Edge.due("with a FAULT", Edge.tell(f, "go"), NONE);
        Edge.dueRow("TEXTS, bytes, FAULT", new int[] {f.about(4), f.about(9), f.fault(0)}, 0, 0, 1);
        Edge.dueRow("REFUSED", Edge.refusals(f), 0, 0, 0);
        Edge.due("empty", f.text(), 0);
        LongLine often = new LongLine();
        for (int i = 0; i < 20; i++) {
            Edge.due("with a FAULT again", Edge.tell(often, "wait 1" + repeated("+1", 40) + "$"), NONE);
        }
        Edge.due("without", Edge.tell(often, "wait 1" + repeated("+1", 100) + ";"), 0);
        often.by(0);
        Edge.ends(often, 1);
        often.go(1);
        Edge.due("all of it rules", often.of(0, 6), 101);
    }

    private static void four(LongLine x) {
        for (int i = 0; i < 4; i++) {
            x.text();
        }
    }

    private static void fault() {
        Edge.says("Of the latest text that was read: 0 its FAULT (0 without), 1 its place (NONE without). NONE for others, and ahead of any.");
        for (int what : new int[] {-1, 0, 1, 2}) {
            Edge.asks("ahead of any", x -> { }, x -> x.fault(what), NONE);
        }
        Edge.asks("FAULT", x -> Edge.tell(x, "go 0;"), x -> x.fault(0), 2);
        Edge.asks("place", x -> Edge.tell(x, "go 0;"), x -> x.fault(1), 3);
        for (int what : new int[] {-1, 2, Edge.LOW, Edge.HIGH}) {
            Edge.asks("others", x -> Edge.tell(x, "go 0;"), x -> x.fault(what), NONE);
        }
        Edge.asks("without", x -> {
            Edge.tell(x, "go 0;");
            Edge.tell(x, "go 1;");
        }, x -> x.fault(0), 0);
        Edge.asks("without", x -> {
            Edge.tell(x, "go 0;");
            x.text();
        }, x -> x.fault(1), NONE);
        Edge.asks("the latest", x -> {
            Edge.tell(x, "go 0;");
            Edge.tell(x, "   go");
        }, x -> x.fault(1), 5);
    }

    // ---- TOKENS ----

    /** The FAULT of a text and its place. */
    private static void faulty(String text, int fault, int place) {
        LongLine x = new LongLine();
        Edge.due("text " + text, Edge.tell(x, text), fault == 0 ? 0 : NONE);
        Edge.dueRow("FAULT and place of " + text, new int[] {x.fault(0), x.fault(1)}, fault, place);
    }

    private static void good(String text) {
        faulty(text, 0, NONE);
    }

    private static void bytes() {
        Edge.says("TEXTS 0 .. 3: of up to 300 bytes.");
        good("");
        StringBuilder b = new StringBuilder("wait 1");
        while (b.length() < 299) {
            b.append(b.length() == 298 ? " " : "+1");
        }
        LongLine x = new LongLine();
        Edge.due("300 bytes", Edge.tell(x, b + ";"), 0);
        x.by(0);
        Edge.ends(x, 1);
        x.go(1);
        Edge.due("each of them", x.of(0, 6), 147);
        faulty(b + "+", 1, 300);
        faulty(b + "<", 1, 299);
        faulty(b + "9", 1, 299);
        faulty(b.substring(0, 292) + "       9", 1, 299);
        Edge.says("TOKENS, blanks (32, 10) aside");
        good(" \n go\n \n3 ; \n");
        good("   \n\n");
        for (int sign = 0; sign < 256; sign++) {
            boolean blank = sign == 32 || sign == 10;
            boolean letter = sign >= 'a' && sign <= 'z' || sign >= 'A' && sign <= 'Z';
            boolean digit = sign >= '0' && sign <= '9';
            // behind a CLAUSE nothing but blanks and a CLAUSE's first word can stand
            faulty("go 1;" + (char) sign, blank ? 0 : 1, blank ? NONE : 5);
            // in one TOKEN with the letters, or the digit; or a TOKEN, that can't stand there
            faulty("go" + (char) sign + " 1;", blank ? 0 : sign == '0' ? 2 : 1,
                blank ? NONE : letter ? 0 : digit && sign > '0' ? 4 : 2);
            faulty("go 1" + (char) sign + ";", blank || digit ? 0 : 1, blank || digit ? NONE : sign == ';' ? 5 : 4);
        }
        Edge.says("letters a .. z, A .. Z one behind the other (one TOKEN), digits likewise (NUMBERS, 0 .. 9999)");
        good("wait0;go300;yes3;");
        faulty("wait who3;", 1, 8);
        faulty("wait 3who;", 1, 6);
        faulty("wait whow;", 1, 5);
        faulty("wait WHO;", 1, 5);
        faulty("wai t 1;", 1, 0);
        faulty("wait 1 2;", 1, 7);
        good("wait 0;");
        good("wait 9999;");
        good("wait 00000000000000000000009999;");
        faulty("wait 10000;", 2, 5);
        faulty("wait 00000000000000000000010000;", 2, 5);
        faulty("wait 4294967296;", 2, 5);
        faulty("wait 4294967297;", 2, 5);
        faulty("wait 18446744073709551617;", 2, 5);
        faulty("go 4294967297;", 2, 3);
    }

    private static void longest() {
        Edge.says("<= >= < > = # + - * / ( ) ; (the longest)");
        for (String sign : new String[] {"<", "<=", ">", ">=", "=", "#"}) {
            good("wait if 1" + sign + "2 then 3 else 4 end;");
        }
        for (String sign : new String[] {"< =", "> =", "<\n=", "= =", "##", "<<", "<>", "==", "=<", "=>", "<=="}) {
            int second = sign.startsWith("<==") ? 2 : sign.length() - 1;
            faulty("wait if 1" + sign + "2 then 3 else 4 end;", 1, 9 + second);
        }
        faulty("wait 1<", 1, 6);
        faulty("wait if 1<=", 1, 11);
        faulty("wait if 1>=", 1, 11);
        faulty("<=", 1, 0);
        good("wait (1)+2-3*4/5;");
    }

    // ---- CLAUSES ----

    private static String repeated(String text, int times) {
        StringBuilder b = new StringBuilder();
        for (int i = 0; i < times; i++) {
            b.append(text);
        }
        return b.toString();
    }

    private static void clauses() {
        Edge.says("{CLAUSE}, 24 at most");
        good(repeated("go 1;", 24));
        Edge.says("6 the 25th CLAUSE (at its first TOKEN)");
        faulty(repeated("go 1;", 24) + " go 1;", 6, 121);
        faulty(repeated("go 1;", 24) + "rule", 6, 120);
        faulty(repeated("go 1;", 24) + "long 1;", 6, 120);
        faulty("wait 1;stops 2;long 3;cold 4;haste 5;" + repeated("go 1;", 20), 6, 132);
        Edge.says("of one the least");
        faulty("wait 1;" + repeated("go 1;", 23) + "wait 1;", 4, 122);
        faulty(repeated("go 1;", 24) + "for", 1, 120);
        faulty(repeated("go 1;", 24) + "10000", 1, 120);
        faulty("10000", 1, 0);
        faulty("wait 1 10000", 1, 7);
        faulty("wait 1 gap", 1, 7);
        faulty("wait 1 wait", 1, 7);
        faulty(repeated("go 1;", 24) + ";", 1, 120);
        Edge.says("4 wait, stops, long, cold, haste for the second time (at it)");
        for (String law : LAWS) {
            faulty(law + " 1;go 1;" + law + " 1;", 4, law.length() + 8);
            faulty(law + " 1;" + law, 4, law.length() + 3);
            for (String other : LAWS) {
                if (!other.equals(law)) {
                    good(law + " 1;" + other + " 1;");
                }
            }
        }
        Edge.says("(each once) or speak NUMBER for NUMBER ; (END, LONG) or hush NUMBER ; or yes NUMBER ; or go NUMBER ; (TENTHS) "
            + "or delay NUMBER to NUMBER by NUMBER ; (from END, to END, DELAY) or rule NUMBER ;.");
        good("speak 0 for 1;speak 0 for 1;hush 0;hush 0;yes 0;yes 0;delay 0 to 1 by 2;delay 0 to 1 by 2;rule 1;rule 1;");
    }

    /** A CLAUSE whose NUMBER takes low .. high. */
    private static void number(String ahead, int low, int high, String behind) {
        good(ahead + low + behind);
        good(ahead + high + behind);
        faulty(ahead + (high + 1) + behind, 2, ahead.length());
        faulty(ahead + 10000 + behind, 2, ahead.length());
        faulty(ahead + -1 + behind, 1, ahead.length());
        if (low == 1) {
            faulty(ahead + 0 + behind, 2, ahead.length());
        }
        faulty(ahead + "who" + behind, 1, ahead.length());
        faulty(ahead + "(1)" + behind, 1, ahead.length());
        faulty(ahead, 1, ahead.length());
    }

    private static void numbers() {
        Edge.says("2 a NUMBER that isn't one of those told (above 9999; ENDS, RULES 0 .. 3, LONG 1 .. 99, TENTHS 1 .. 300, DELAYS 0 .. 60)");
        number("speak ", 0, 3, " for 5;");
        number("speak 1 for ", 1, 99, ";");
        number("hush ", 0, 3, ";");
        number("yes ", 0, 3, ";");
        number("go ", 1, 300, ";");
        number("delay ", 0, 3, " to 1 by 5;");
        number("delay 0 to ", 0, 3, " by 5;");
        number("delay 0 to 1 by ", 0, 60, ";");
        number("rule ", 0, 3, ";");
        good("delay 2 to 2 by 5;");
        for (String law : LAWS) {
            good(law + " 0;");
            good(law + " 9999;");
            faulty(law + " 10000;", 2, law.length() + 1);
            faulty(law + " 1+10000;", 2, law.length() + 3);
        }
    }

    private static void firstFault() {
        Edge.says("FAULTS, the first as TOKENS are come to, at the TOKEN's first byte (of the end at the length)");
        faulty("go 0;go 301;", 2, 3);
        faulty("go 1 $ 10000", 1, 5);
        faulty("go 1;$$$", 1, 5);
        faulty("go 301 $", 2, 3);
        String[] unfinished = {"speak", "speak 0", "speak 0 for", "speak 0 for 1", "hush", "yes 1", "go", "delay", "delay 0",
            "delay 0 to", "delay 0 to 1", "delay 0 to 1 by", "delay 0 to 1 by 2", "rule 1", "wait", "wait 1", "wait 1 +",
            "wait (", "wait (1", "wait -", "wait if", "wait if 1", "wait if 1 <", "wait if 1 < 2", "wait if 1 < 2 and",
            "wait if 1 < 2 or", "wait if not", "wait if 1 < 2 then", "wait if 1 < 2 then 3", "wait if 1 < 2 then 3 else",
            "wait if 1 < 2 then 3 else 4", "wait if 1 < 2 then 3 else 4 end"};
        for (String text : unfinished) {
            faulty(text, 1, text.length());
            faulty(text + "  \n", 1, text.length() + 3);
            faulty(text + " ?", 1, text.length() + 1);
        }
        Edge.says("1 it can't stand there, or is none");
        faulty("speak 0 to 1;", 1, 8);
        faulty("speak 0 1;", 1, 8);
        faulty("delay 0 1 by 2;", 1, 8);
        faulty("delay 0 to 1 2;", 1, 13);
        faulty("wait if 1<2 3 else 4 end;", 1, 12);
        faulty("wait if 1<2 then 3 4 end;", 1, 19);
        faulty("wait if 1<2 then 3 else 4;", 1, 25);
        faulty("go 1 go 1;", 1, 5);
        faulty("wait 1 go 1;", 1, 7);
        faulty("delay 0 for 1 by 2;", 1, 8);
        faulty("delay 0 to 1 for 2;", 1, 13);
        faulty("wait if 1 then 2 else 3 end;", 1, 10);
        faulty("wait if 1<2 else 3 end;", 1, 12);
        faulty("wait if 1<2 then 3 end;", 1, 19);
        faulty("wait if (1<2) then 3 else 4 end;", 1, 10);
        faulty("wait not 1;", 1, 5);
        faulty("wait 1 and 2;", 1, 7);
        faulty("wait + 1;", 1, 5);
        faulty("wait 1 - * 2;", 1, 9);
        faulty("wait ;", 1, 5);
        faulty("wait );", 1, 5);
        faulty("wait who who;", 1, 9);
        faulty("wait end;", 1, 5);
        faulty("end;", 1, 0);
        faulty("gap;", 1, 0);
    }

    private static void deep() {
        Edge.says("3 the 9th of (, not, if and - (of one ONE) that are open around one another (at it)");
        good("wait " + repeated("(", 8) + "1" + repeated(")", 8) + ";");
        faulty("wait " + repeated("(", 9) + "1" + repeated(")", 9) + ";", 3, 13);
        good("wait " + repeated("-", 8) + "1;");
        faulty("wait " + repeated("-", 9) + "1;", 3, 13);
        good("wait if " + repeated("not ", 7) + "1=2 then 3 else 4 end;");
        faulty("wait if " + repeated("not ", 8) + "1=2 then 3 else 4 end;", 3, 36);
        good("wait " + repeated("if 1<", 8) + "2" + repeated(" then 3 else 4 end", 8) + ";");
        faulty("wait " + repeated("if 1<", 9) + "2", 3, 45);
        faulty("wait " + repeated("(", 8) + "-1", 3, 13);
        faulty("wait " + repeated("(", 8) + "if", 3, 13);
        faulty("wait " + repeated("-", 8) + "(", 3, 13);
        faulty("wait " + repeated("(", 8) + "10000", 2, 13);
        // closed ones, and - between two, are not open around it
        good("wait " + repeated("(", 8) + "1" + repeated(")", 8) + "+" + repeated("(", 8) + "1" + repeated(")", 8) + ";");
        good("wait " + repeated("-", 8) + "1-" + repeated("-", 8) + "1;");
        good("wait " + repeated("(", 8) + "1-1-1" + repeated(")", 8) + ";");
        good("wait if not 1=2 and not 1=2 and not 1=2 and not 1=2 or not 1=2 or not 1=2 or not 1=2 and not 1=2 and "
            + "not 1=2 then 1 else 2 end;");
        good("wait if " + repeated("not ", 7) + "1=2 then ((((((( 3 ))))))) else ------- 4 end;");
        faulty("wait if 1=2 then (((((((( 3 ))))))));", 3, 24);
        faulty("wait if 1=2 then 3 else (((((((( 4 ))))))));", 3, 31);
        good("long " + repeated("(", 8) + "1" + repeated(")", 8) + ";cold " + repeated("(", 8) + "1" + repeated(")", 8) + ";");
    }

    private static void names() {
        Edge.says("5 a NAME that isn't of that CLAUSE (at it)");
        String[] all = {"who", "ends", "ruled"};
        String[] ofLine = {"turns", "cut", "waits", "spread", "stop", "length"};
        for (String law : LAWS) {
            int at = law.length() + 1;
            boolean line = law.equals("wait") || law.equals("stops") || law.equals("long");
            for (String name : all) {
                good(law + " " + name + ";");
            }
            for (String name : ofLine) {
                faulty(law + " " + name + ";", line ? 0 : 5, line ? NONE : at);
            }
            faulty(law + " gap;", law.equals("cold") ? 0 : 5, law.equals("cold") ? NONE : at);
            faulty(law + " into;", law.equals("haste") ? 0 : 5, law.equals("haste") ? NONE : at);
            faulty(law + " 1+(gap+into);", 5, law.equals("cold") ? at + 7 : at + 3);
            faulty(law + " other;", 1, at);
        }
    }

    // ---- SUMS ----

    /** What a SUM is by the law wait, if it is 0 .. 999. */
    private static void sum(String sum, int want) {
        LongLine x = new LongLine();
        Edge.due("a text of " + sum, Edge.tell(x, "wait " + sum + ";"), 0);
        x.by(0);
        Edge.ends(x, 2);
        x.go(1);
        Edge.due("wait " + sum, x.of(1, 6), want);
    }

    private static void sums() {
        Edge.says("From the left; / cuts towards 0, by 0 it is 0");
        sum("20-3-4", 13);
        sum("20-3+4", 21);
        sum("2*7/4", 3);
        sum("7/4*2", 2);
        sum("100/10/5", 2);
        sum("1+2*3", 7);
        sum("7/2", 3);
        sum("10+(0-7)/2", 7);
        sum("10+7/(0-2)", 7);
        sum("(0-7)/(0-2)", 3);
        sum("10+-7/2", 7);
        sum("1/2", 0);
        sum("10+(0-1)/2", 10);
        sum("7/0", 0);
        sum("0/0+5", 5);
        sum("5+(0-7)/0", 5);
        sum("7/(3-3)*9+1", 1);
        Edge.says("what is above 1000000 (below the same less) is that, at each step");
        sum("1000*1000-9999*100", 100);
        sum("1000*1000-1-9999*100", 99);
        sum("1000*1000+1-9999*100", 100);
        sum("1001*1000-9999*100", 100);
        sum("9999*9999-9999*100", 100);
        sum("9999*9999*9999-9999*100", 100);
        sum("1000*1000+9999-1-9999*100", 99);
        sum("0-1000*1000+9999*100+200", 100);
        sum("0-1000*1000-1+9999*100+200", 100);
        sum("0-1000*1000+1+9999*100+200", 101);
        sum("(0-1001)*1000+9999*100+200", 100);
        sum("-9999*9999+9999*100+200", 100);
        sum("-(9999*9999)+9999*100+200", 100);
        sum("1000*1000*1000/1000", 999);
        sum("1000*1000*1000/9999", 100);
        sum("1000*1000*1000*1000*1000*1000*1000*1000/9999", 100);
        sum("(0-1000*1000)*(0-1000*1000)/9999", 100);
        Edge.says("or and and look at both sides always; of if just the SUM that is chosen is asked for");
        String[] yes = {"1<2", "1<=2", "2<=2", "2>1", "2>=1", "2>=2", "2=2", "1#2", "not 2<2", "not 2>2", "not 1=2",
            "not 2#2", "not 1>=2", "not 2<=1", "1=1 or 1=2", "1=2 or 1=1", "1=1 and 2=2", "1=1 or 1=1 and 1=2",
            "1=2 and 1=1 or 1=1", "not 1=2 and 1=1", "not not 1=1", "1+1=2", "0-1<0", "1/0=0", "not 1=2 or 1=1"};
        for (String ask : yes) {
            sum("if " + ask + " then 3 else 4 end", 3);
            sum("if not " + ask + " or " + ask + " then 3 else 4 end", 3);
        }
        String[] no = {"2<1", "2<2", "2<=1", "1>2", "2>2", "1>=2", "1=2", "2#2", "not 1<2", "not 2=2", "1=2 or 2=1",
            "1=1 and 1=2", "1=2 and 1=1", "1=2 and 1=2", "not 1=1 or 1=2", "not not 1=2", "1=2 and 1=1 or 1=2"};
        for (String ask : no) {
            sum("if " + ask + " then 3 else 4 end", 4);
        }
        sum("if 1=1 then 3 else 1/0 end+1", 4);
        sum("1+if 1=2 then 3 else if 1=1 then 5 else 6 end end*2", 11);
    }

    private static void namesOfLaws() {
        Edge.says("NAMES: who (the END; of cold and haste the one that seems so), ends (how many there are), ruled (the RULE) in all; "
            + "turns (how many of its own there are; one that begins isn't yet), cut (how many of these are YIELDED)");
        LongLine x = new LongLine();
        Edge.tell(x, "wait 500+who*100+ends*10+ruled;long 1+turns*10+cut;stops 1;");
        x.by(0);
        x.tellEnd(9, 0, 0, 5);
        x.tellEnd(9, 0, 0, 5);
        x.tellEnd(9, 0, 0, 5);
        x.go(1);
        Edge.dueRow("who, ends, ruled", new int[] {x.of(0, 6), x.of(1, 6), x.of(2, 6)}, 530, 630, 730);
        LongLine y = new LongLine();
        Edge.tell(y, "wait 0;long 1+turns*10+cut;stops 1;");
        y.by(0);
        y.tellEnd(9, 0, 0, 5);
        y.tellEnd(9, 0, 0, 5);
        y.speak(0, 4);
        y.go(1);
        // END 0 speaks in 1, END 1 begins its first in 1: both HEAR and yield in 2, and begin again in 3
        Edge.due("one that begins isn't yet", y.turn(1, 2), 1);
        y.go(2);
        Edge.dueRow("turns and cut of END 0", new int[] {y.turn(2, 0), y.turn(2, 2)}, 0, 12);
        Edge.dueRow("turns and cut of END 1", new int[] {y.turn(3, 0), y.turn(3, 2)}, 1, 12);
        Edge.says("waits, spread, stop, length (as told of it) in wait, stops, long; gap in cold; into in haste");
        LongLine z = new LongLine();
        Edge.tell(z, "wait waits*100+spread*10;long 10+stop*10+length;");
        z.by(0);
        z.tellEnd(1, 1, 1, 1);
        z.tellEnd(2, 0, 3, 4);
        z.go(1);
        Edge.due("waits and spread", z.of(1, 6), 200);
        z.go(200);
        Edge.dueRow("stop and length", new int[] {z.turn(0, 0), z.turn(0, 2)}, 0, 21);
        LongLine each = new LongLine();
        Edge.tell(each, "wait waits*100+spread*10-200;long spread*10+stop;");
        each.by(0);
        each.tellEnd(2, 3, 4, 5);
        each.go(1);
        // 13 mod 4 is drawn beside the law's 30
        Edge.due("spread in wait", each.of(0, 6), 31);
        each.go(31);
        Edge.due("spread in long", each.turn(0, 2), 34);
        LongLine seems = coldAndHasty();
        seems.rule(3);
        Edge.tell(seems, "cold who*100+ends*10+ruled;haste who*100+ends*10+ruled;");
        seems.by(1);
        Edge.due("who, ends, ruled in cold", seems.cold(0, 1, false), 23);
        LongLine hasty = Edge.silent(3);
        hasty.rule(2);
        Edge.tell(hasty, "cold who*100+ends*10+ruled;haste who*100+ends*10+ruled;");
        hasty.speak(0, 9);
        hasty.go(2);
        hasty.speak(1, 9);
        hasty.go(2);
        hasty.by(1);
        Edge.due("who, ends, ruled in haste", hasty.haste(1, 0, false), 132);
    }

    // ---- laws ----

    private static void waitLaw() {
        Edge.says("wait: 0 at least, 999 at most; without: WAIT");
        sum("0-1", 0);
        sum("0", 0);
        sum("998", 998);
        sum("999", 999);
        sum("1000", 999);
        sum("9999*9999", 999);
        sum("0-9999*9999", 0);
        LongLine x = new LongLine();
        Edge.tell(x, "wait 1000;");
        x.by(0);
        x.tellEnd(0, 0, 0, 1);
        x.go(300);
        x.go(300);
        x.go(300);
        Edge.due("not up to 999", x.go(99), 0);
        Edge.due("in 1000", x.go(1), 1);
        LongLine y = new LongLine();
        Edge.tell(y, "long 2;");
        y.by(0);
        y.tellEnd(37, 2, 0, 1);
        y.go(1);
        Edge.due("without: WAIT, and a draw", y.of(0, 6), 37 + 1);
        LongLine z = new LongLine();
        Edge.tell(z, "wait 999;");
        z.by(0);
        z.tellEnd(0, 2, 0, 1);
        z.rule(3);
        z.go(1);
        Edge.due("a draw and the RULE beyond that", z.of(0, 6), 3000);
    }

    /** Two begin in TENTH 1, LONG 99: ENDED and KIND of END 1 by a law. */
    private static int[] endedBy(String law) {
        LongLine x = new LongLine();
        Edge.tell(x, "wait 999;" + law);
        x.by(0);
        x.tellEnd(9, 0, 0, 5);
        x.tellEnd(9, 0, 7, 5);
        x.speak(0, 99);
        x.speak(1, 99);
        x.go(200);
        return new int[] {x.turn(1, 3), x.turn(1, 4)};
    }

    private static void stopsLaw() {
        Edge.says("stops: 0 at least, 99 at most; without: STOPS (asked each TENTH that is spoken on)");
        Edge.dueRow("without", endedBy(""), 8, 2);
        Edge.dueRow("1", endedBy("stops who;"), 2, 2);
        Edge.dueRow("98", endedBy("stops who*98;"), 99, 2);
        Edge.dueRow("99", endedBy("stops who*99;"), 100, 2);
        Edge.dueRow("100", endedBy("stops who*100;"), 100, 2);
        Edge.dueRow("9999", endedBy("stops who*9999;"), 100, 2);
        Edge.dueRow("0", endedBy("stops 0;"), 100, 1);
        Edge.dueRow("-1", endedBy("stops 0-who;"), 100, 1);
        LongLine x = new LongLine();
        Edge.tell(x, "wait 999;stops if ruled=0 then 5 else 3 end;");
        x.by(0);
        Edge.ends(x, 2);
        x.speak(0, 9);
        x.speak(1, 9);
        x.go(3);
        Edge.due("PRESSED 2 of 5", x.turn(0, 4), 0);
        x.rule(1);
        x.go(1);
        Edge.due("PRESSED 3 of 3", x.turn(0, 4), 2);
    }

    private static int longBy(String law) {
        LongLine x = new LongLine();
        Edge.tell(x, law);
        x.by(0);
        x.tellEnd(0, 0, 0, 42);
        x.go(1);
        return x.turn(0, 2);
    }

    private static void longLaw() {
        Edge.says("long: 1 at least, 99 at most; without: LENGTH");
        Edge.due("-1", longBy("long 0-1;"), 1);
        Edge.due("0", longBy("long 0;"), 1);
        Edge.due("1", longBy("long 1;"), 1);
        Edge.due("2", longBy("long 2;"), 2);
        Edge.due("98", longBy("long 98;"), 98);
        Edge.due("99", longBy("long 99;"), 99);
        Edge.due("100", longBy("long 100;"), 99);
        Edge.due("without", longBy("stops 3;"), 42);
        LongLine x = new LongLine();
        Edge.tell(x, "long 7;");
        x.by(0);
        Edge.ends(x, 1);
        x.speak(0, 33);
        Edge.due("by hand as told", x.turn(0, 2), 33);
    }

    /** END 1 has SAID a TURN in 1, ENDED in 2; END 0 begins one in 4, HEARD in 5, into END 1's of 5. */
    private static LongLine coldAndHasty() {
        LongLine x = Edge.silent(2);
        x.speak(1, 1);
        x.go(3);
        x.speak(0, 3);
        x.go(2);
        return x;
    }

    private static int coldBy(String law) {
        LongLine x = coldAndHasty();
        Edge.tell(x, law);
        x.by(x.about(4) - 1);
        return x.cold(0, 1, false);
    }

    private static int hasteBy(String law) {
        LongLine x = Edge.silent(2);
        x.speak(1, 9);
        x.go(3);
        x.speak(0, 3);
        x.go(2);
        Edge.tell(x, law);
        x.by(x.about(4) - 1);
        return x.haste(0, 1, false);
    }

    private static void coldAndHasteLaws() {
        Edge.says("cold, haste: 0 at least, 9999 at most; without: the gap, 1");
        Edge.due("cold without", coldBy("haste 5;"), 3);
        Edge.due("haste without", hasteBy("cold 5;"), 1);
        Edge.due("cold: gap", coldBy("cold gap*100;"), 300);
        Edge.due("haste: into", hasteBy("haste into*100;"), 400);
        int[][] all = {{0, 0}, {1, 1}, {9998, 9998}, {9999, 9999}};
        for (int[] one : all) {
            Edge.due("cold", coldBy("cold " + one[0] + ";"), one[1]);
            Edge.due("haste", hasteBy("haste " + one[0] + ";"), one[1]);
            Edge.due("cold below", coldBy("cold 0-1-" + one[0] + ";"), 0);
            Edge.due("haste below", hasteBy("haste 0-1-" + one[0] + ";"), 0);
            Edge.due("cold above", coldBy("cold 9999+1+" + one[0] + ";"), 9999);
            Edge.due("haste above", hasteBy("haste 9999+1+" + one[0] + ";"), 9999);
        }
    }

    private static void by() {
        Edge.says("THE TEXT (NONE: none): true. False for others.");
        Edge.takesJust(-1, 1, y -> {
            y.text();
            y.text();
        }, (y, n) -> Edge.flag(y.by(n)), 0, 0);
        Edge.takesJust(-1, -1, y -> { }, (y, n) -> Edge.flag(y.by(n)), 0, 0);
        Edge.takesJust(-1, 3, y -> four(y), (y, n) -> Edge.flag(y.by(n)), 0, 0);
        Edge.says("THE TEXT (told; at first none) rules");
        LongLine x = new LongLine();
        Edge.tell(x, "wait 5;");
        Edge.due("at first", x.about(5), NONE);
        Edge.ends(x, 1);
        x.go(1);
        Edge.due("it doesn't rule yet", x.of(0, 6), 9);
        LongLine y = new LongLine();
        Edge.tell(y, "wait 5;");
        y.by(0);
        y.by(0);
        Edge.due("told twice", y.about(5), 0);
        y.by(NONE);
        Edge.due("none again", y.about(5), NONE);
        Edge.ends(y, 1);
        y.go(1);
        Edge.due("none rules", y.of(0, 6), 9);
    }

    // ---- PLAYED ----

    private static void cantBe(String text, int clause, int reason, Edge.Setup setup) {
        LongLine x = new LongLine();
        setup.on(x);
        Edge.due("a text", Edge.tell(x, text), 0);
        int[] want = Edge.refusals(x);
        want[reason]++;
        Edge.due("played " + text, x.played(0), clause);
        Edge.dueRow("REFUSED by " + text, Edge.refusals(x), want);
    }

    private static void played() {
        Edge.says("PLAYED by a TEXT: NONE: all is done; else the number of the CLAUSE that can't be. -2 for others.");
        Edge.takesJust(0, 1, y -> {
            y.text();
            y.text();
        }, (y, n) -> y.played(n), -2, 0);
        Edge.refuses("no TEXTS", y -> { }, y -> y.played(0), -2, 0);
        Edge.refuses("NONE", y -> y.text(), y -> y.played(NONE), -2, 0);
        Edge.takesJust(0, 3, y -> four(y), (y, n) -> y.played(n), -2, 0);
        Edge.asks("of no CLAUSES", y -> y.text(), y -> y.played(0), NONE);
        Edge.asks("of laws alone", y -> Edge.tell(y, "wait 1;stops 2;long 3;cold 4;haste 5;"), y -> y.played(0), NONE);
        Edge.says("its CLAUSES but laws, in their order, as by hand; one that can't be ends it: its number among all CLAUSES (from 0); what was done stays");
        cantBe("speak 2 for 1;", 0, 0, x -> Edge.ends(x, 2));
        cantBe("wait 1;speak 1 for 1;speak 1 for 1;rule 1;", 2, 2, x -> Edge.ends(x, 2));
        cantBe("rule 1;hush 0;", 1, 2, x -> Edge.ends(x, 2));
        cantBe("rule 1;long 1;cold 2;hush 3;", 3, 0, x -> Edge.ends(x, 2));
        cantBe("yes 3;", 0, 0, x -> Edge.ends(x, 3));
        cantBe("rule 0;", 0, 2, x -> { });
        cantBe("delay 1 to 1 by 1;", 0, 0, x -> Edge.ends(x, 2));
        cantBe("delay 0 to 1 by 0;", 0, 2, x -> Edge.ends(x, 2));
        cantBe("delay 0 to 2 by 9;", 0, 0, x -> Edge.ends(x, 2));
        cantBe("yes 0;yes 1;", 1, 1, x -> {
            Edge.ends(x, 2);
            for (int i = 0; i < 39; i++) {
                x.yes(0);
            }
        });
        cantBe("speak 0 for 1;hush 0;speak 1 for 1;", 2, 1, x -> {
            Edge.ends(x, 2);
            for (int i = 0; i < 89; i++) {
                x.speak(0, 1);
                x.hush(0);
            }
        });
        cantBe("go 299;go 1;go 1;", 2, 1, x -> {
            for (int i = 0; i < 29; i++) {
                x.go(300);
            }
        });
        LongLine x = new LongLine();
        Edge.ends(x, 2);
        Edge.tell(x, "delay 0 to 1 by 60;speak 0 for 99;go 300;yes 1;rule 3;rule 3;go 5;");
        Edge.due("the second RULE", x.played(0), 5);
        Edge.dueRow("what was done stays", new int[] {x.of(1, 20), x.turn(0, 2), x.about(1), x.said(NONE, 0), x.about(2),
            x.about(6)}, 60, 99, 300, 1, 3, 5);
        LongLine y = new LongLine();
        Edge.tell(y, repeated("go 1;", 24));
        Edge.due("24 CLAUSES", y.played(0), NONE);
        Edge.due("all of them", y.about(1), 24);
        LongLine z = new LongLine();
        Edge.ends(z, 1);
        Edge.tell(z, repeated("rule 1;rule 2;", 11) + "yes 0;hush 0;");
        Edge.due("the 24th", z.played(0), 23);
        Edge.due("a YES that MEANT none is done", z.said(NONE, 0), 1);
    }

    public static void main(String[] args) {
        feed();
        end();
        text();
        fault();
        bytes();
        longest();
        clauses();
        numbers();
        firstFault();
        deep();
        names();
        sums();
        namesOfLaws();
        waitLaw();
        stopsLaw();
        longLaw();
        coldAndHasteLaws();
        by();
        played();
        Edge.finish("part II");
    }
}
