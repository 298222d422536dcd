/** What laws come to: the terms of part II. */
public final class LawTest {
    private static final Due due = new Due();

    public static void main(String[] args) {
        namesInAll();
        namesOfPlaces();
        nameOfStep();
        nameOfGone();
        fromTheLeft();
        division();
        millions();
        asks();
        bothSides();
        chosen();
        deep();
        due.close("LawTest");
    }

    private static void steps(String sum, int want) {
        due.is("steps " + sum, Mails.ruled("steps " + sum + ";").would(0, 0, 2), want);
    }

    private static void oats(String sum, int want) {
        due.is("oats " + sum, Mails.ruled("oats " + sum + ";").would(0, 0, 1), want);
    }

    private static void namesInAll() {
        due.of("NAMES: horse, count, shoe, day in all;");
        CountingHorses x = Mails.three();
        due.stands(x, 0, "steps horse+count*2+shoe*9+day*20; stride horse+1; oats 1;");
        x.by(0);
        due.call(x, 8 + 27, "would", 0, 0, 2);
        due.call(x, 1 + 4 + 45, "would", 1, 0, 2);
        due.call(x, 100, "would", 1, 0, 0);
        due.stands(x, 1, "stride horse+count*2-shoe+day; oats 1;");
        x.by(1);
        due.call(x, 4 * 5, "would", 0, 0, 0);
        due.call(x, 0, "would", 1, 0, 0);
        due.stands(x, 2, "oats horse+count*2+shoe*9+day*20;");
        x.by(2);
        due.call(x, 8 + 27, "would", 0, 0, 1);
        due.call(x, 2 + 14 + 9, "would", 2, 0, 1);
        x.pass(2);
        due.call(x, 8 + 27 + 40, "would", 0, 0, 1);
        x.by(0);
        due.call(x, 8 + 27 + 40, "would", 0, 0, 2);
        x.by(1);
        due.call(x, 4 * 7, "would", 0, 0, 0);
        x.undo();
        due.call(x, 4 * 6, "would", 0, 0, 0);
        due.call(Mails.ruled("oats day*0+999;"), 999, "would", 0, 0, 1);
    }

    private static void namesOfPlaces() {
        due.of("mud, place (where it is; of steps where it sets out) in steps and stride;");
        CountingHorses x = Mails.three();
        due.stands(x, 0, "steps place+mud*10; stride if step=2 ? mud : place end;");
        x.by(0);
        x.mud(2, 2, 3);
        x.mud(4, 4, 7);
        due.call(x, 32, "would", 0, 2, 2);
        due.call(x, 3, "would", 0, 3, 2);
        due.call(x, 0, "would", 0, 0, 2);
        // From 3 by place to 6, by mud to 6, by place to 12.
        due.call(x, 12, "would", 0, 3, 0);
        // From 2 by place to 4, by mud to 11, then thirty times by 9, as place is more.
        due.call(x, 281, "would", 0, 2, 0);
        due.call(x, 99, "would", 0, 299, 2);
    }

    private static void nameOfStep() {
        due.of("step (from 1 on) in stride;");
        due.call(Mails.ruled("stride step;"), 1 + 2 + 3 + 4, "would", 0, 0, 0);
        due.call(Mails.ruled("stride step;"), 1 + 2, "would", 1, 0, 0);
        due.call(Mails.ruled("steps 99; stride if step=99 ? 1 : 0 end;"), 1, "would", 0, 0, 0);
        due.call(Mails.ruled("stride if step=0 ? 9 : 0 end;"), 0, "would", 0, 0, 0);
        due.faulty("steps step;", 5, 6);
    }

    private static void nameOfGone() {
        due.of("gone in oats.");
        due.call(Mails.ruled("oats gone*2+1;"), 25, "would", 0, 5, 1);
        due.call(Mails.ruled("oats gone;"), 0, "would", 0, 299, 1);
        due.call(Mails.ruled("steps 99; stride 9; oats gone;"), 299, "would", 0, 0, 1);
        due.faulty("stride gone;", 5, 7);
    }

    private static void fromTheLeft() {
        due.of("From the left;");
        steps("10-3-2", 5);
        steps("10-3+2", 9);
        steps("10-(3-2)", 9);
        steps("2+3*4", 14);
        steps("(2+3)*4", 20);
        steps("20-2*3", 14);
        steps("100/10/5", 2);
        steps("100/(10/5)", 50);
        steps("7/2*2", 6);
        steps("2*7/2", 7);
        steps("- -5", 5);
        steps("50-2*-3", 56);
        steps("2*-3+50", 44);
        steps("-3+50", 47);
        steps("-(3-50)", 47);
    }

    private static void division() {
        due.of("/ cuts towards 0, by 0 it is 0;");
        steps("7/2", 3);
        steps("20+-7/2", 17);
        steps("20+7/-2", 17);
        steps("20+(0-7)/2", 17);
        steps("20+-7/-2", 23);
        steps("20+-1/2", 20);
        steps("0/5+1", 1);
        steps("5/0+1", 1);
        steps("-5/0+1", 1);
        steps("0/0+1", 1);
        steps("5/day+1", 1);
        steps("5/(3-3)*2+1", 1);
    }

    private static void millions() {
        due.of("what is above 1000000 (below the same less) is that, at each step.");
        String million = "1000*1000";
        oats(million + "-999*1000-999", 1);
        oats(million + "+1-999*1000-999", 1);
        oats("999*1000+999+1-999*1000-999", 1);
        oats("999*1000+999-999*1000-998", 1);
        oats("1001*1000-999*1000-999", 1);
        oats("9999*9999-999*1000-999", 1);
        oats("9999*9999*9999-999*1000-999", 1);
        oats("0-" + million + "+999*1000+999+2", 1);
        oats("0-" + million + "-1+999*1000+999+2", 1);
        oats("-1001*1000+999*1000+999+2", 1);
        oats("-9999*9999+999*1000+999+2", 1);
        oats("9999*-9999+999*1000+999+2", 1);
        oats("-9999*9999*9999*-1-999*1000-999", 1);
        oats("(" + million + ")*(" + million + ")-999*1000-999", 1);
        oats("(" + million + "+5)/1000", 999);
        oats("(" + million + ")/2000", 500);
        oats("-(0-" + million + "-1)-999*1000-999", 1);
        oats(million + "*" + million + "*1000*1000/1000/5", 200);
        oats("9999*9999+1-" + million, 0);
        due.call(Mails.ruled("steps 9999*9999;"), 99, "would", 0, 0, 2);
        due.call(Mails.ruled("steps 9999*9999*-1;"), 0, "would", 0, 0, 2);
    }

    private static void asks() {
        due.of("ASK: not ASK, or SUM one of < <= > >= = # (unlike) SUM.");
        String[] signs = {"<", "<=", ">", ">=", "=", "#"};
        int[][] so = {{0, 0, 1}, {0, 1, 1}, {1, 0, 0}, {1, 1, 0}, {0, 1, 0}, {1, 0, 1}};
        for (int i = 0; i < signs.length; i++) {
            for (int right = 1; right <= 3; right++) {
                steps("if 2 " + signs[i] + " " + right + " ? 1 : 0 end", so[i][right - 1]);
                steps("if not 2 " + signs[i] + right + " ? 1 : 0 end", 1 - so[i][right - 1]);
                steps("if -2 " + signs[i] + " -" + (4 - right) + " ? 1 : 0 end", so[i][right - 1]);
            }
        }
        steps("if not not 1=1 ? 7 : 8 end", 7);
        steps("if not 1=2 and 1=2 ? 7 : 8 end", 8);
        steps("if not 1=1 or 1=1 ? 7 : 8 end", 7);
        steps("if 1+1*2 = 3 ? 1 : 2 end", 1);
        steps("if 9999*9999 = 1000*1000 ? 1 : 2 end", 1);
    }

    private static void bothSides() {
        due.of("or and and look at both sides always;");
        String[] yes = {"1=2", "1=1"};
        for (int a = 0; a < 2; a++) {
            for (int b = 0; b < 2; b++) {
                steps("if " + yes[a] + " or " + yes[b] + " ? 7 : 8 end", a + b > 0 ? 7 : 8);
                steps("if " + yes[a] + " and " + yes[b] + " ? 7 : 8 end", a + b > 1 ? 7 : 8);
                for (int c = 0; c < 2; c++) {
                    steps("if " + yes[a] + " or " + yes[b] + " and " + yes[c] + " ? 7 : 8 end",
                        a + b * c > 0 ? 7 : 8);
                    steps("if " + yes[a] + " and " + yes[b] + " or " + yes[c] + " ? 7 : 8 end",
                        a * b + c > 0 ? 7 : 8);
                }
            }
        }
        steps("if 1=1 or 1/0=1 ? 7 : 8 end", 7);
        steps("if 1/0=1 and 1=1 ? 7 : 8 end", 8);
        steps("if 1=2 or 1=2 or 1=1 ? 7 : 8 end", 7);
        steps("if 1=1 and 1=1 and 1=2 ? 7 : 8 end", 8);
    }

    private static void chosen() {
        due.of("of if just the SUM that is chosen is worked.");
        steps("if 1=1 ? 3 : 9999*9999 end", 3);
        steps("if 1=2 ? 9999*9999 : 4 end", 4);
        steps("if 1=1 ? 3 : 1/0 end", 3);
        steps("5+if 1=1 ? 3 : 4 end*2", 11);
        steps("5+if 1=2 ? 3 : 4 end*2", 13);
        steps("if 1=1 ? if 1=2 ? 3 : 4 end : 5 end", 4);
        steps("2*if 1=2 ? 3 : if 1=1 ? 4 : 5 end end+1", 9);
        steps("if if 1=1 ? 1 : 2 end = 1 ? 6 : 7 end", 6);
        due.call(Mails.ruled("steps if horse=0 ? count : shoe end;"), 4, "would", 0, 0, 2);
        due.call(Mails.ruled("steps if horse=0 ? count : shoe end;"), 5, "would", 1, 0, 2);
    }

    /** As many values as can wait for one another, and texts of as many bytes as there can be. */
    private static void deep() {
        String deep = "1";
        for (int i = 0; i < 8; i++) {
            deep = "if 1=2 or 1=1 and 1=1+1*" + deep + "?1:2end";
        }
        steps(deep, 2);
        deep = "1";
        for (int i = 0; i < 8; i++) {
            deep = "if 1=2 or 1=1 and 0=1-1*" + deep + "?1:2end";
        }
        steps(deep, 1);
        String wide = "steps 5" + "-1".repeat(2) + "+0".repeat(143) + " ;";
        due.is("bytes", wide.length(), 299);
        due.call(Mails.ruled(wide + "\n"), 3, "would", 0, 0, 2);
        due.call(Mails.ruled("steps " + "-".repeat(8) + "7;"), 7, "would", 0, 0, 2);
        due.call(Mails.ruled("steps 9" + "+-1".repeat(4) + "--3;"), 8, "would", 0, 0, 2);
    }
}
