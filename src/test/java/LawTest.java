/** What laws come to (section II), as promise 14 shows it. */
public final class LawTest {
    private static final Due due = new Due();

    public static void main(String[] args) {
        sums();
        asks();
        bounds();
        names();
        places();
        due.close("LawTest");
    }

    private static CountingHorses ruled(String text) {
        CountingHorses x = new CountingHorses();
        x.horse(4, 3);
        x.horse(2, 5);
        due.stands(x, 0, text);
        x.by(0);
        return x;
    }

    private static void steps(String sum, int want) {
        due.is("steps " + sum, ruled("steps " + sum + ";").would(0, 0, 2), want);
    }

    private static void oats(String sum, int want) {
        due.is("oats " + sum, ruled("oats " + sum + ";").would(0, 0, 1), want);
    }

    private static void sums() {
        steps("10-3-2", 5);
        steps("2+3*4", 14);
        steps("(2+3)*4", 20);
        steps("100/10/5", 2);
        steps("100/(10/5)", 50);
        steps("7/2*2", 6);
        steps("20+-7/2", 17);
        steps("20+7/-2", 17);
        steps("20+(0-7)/2", 17);
        steps("5/0+1", 1);
        steps("(0-5)/0+1", 1);
        steps("- -5", 5);
        steps("50-2*-3", 56);
        steps("2*-3+50", 44);
        oats("9999*9999/9999", 100);
        oats("9999*9999-9999*100-99", 1);
        oats("9999*9999*-1+9999*100+101", 1);
        oats("-9999*9999+9999*9999", 0);
        oats("9999*100+9999-9999*100", 100);
        oats("-9999*100-9999+9999*100+101", 1);
        oats("9999*9999*9999/9999", 100);
    }

    private static void asks() {
        String[] signs = {"<", "<=", ">", ">=", "=", "#"};
        int[][] so = {{1, 0, 0}, {1, 1, 0}, {0, 0, 1}, {0, 1, 1}, {0, 1, 0}, {1, 0, 1}};
        for (int i = 0; i < signs.length; i++) {
            for (int right = 1; right <= 3; right++) {
                steps("if 2 " + signs[i] + " " + (4 - right) + " ? 1 : 0 end", so[i][right - 1]);
            }
        }
        steps("if 1=1 or 1=2 and 1=2 ? 7 : 8 end", 7);
        steps("if 1=2 and 1=2 or 1=1 ? 7 : 8 end", 7);
        steps("if not 1=2 and 1=2 ? 7 : 8 end", 8);
        steps("if not 1=1 or 1=1 ? 7 : 8 end", 7);
        steps("if not not 1=1 ? 7 : 8 end", 7);
        steps("if 1=1 ? if 1=2 ? 3 : 4 end : 5 end", 4);
        steps("2*if 1=2 ? 3 : if 1=1 ? 4 : 5 end end+1", 9);
        steps("if if 1=1 ? 1 : 2 end = 1 ? 6 : 7 end", 6);
        steps("if 1+1*2 = 3 ? 1 : 2 end", 1);
        String deep = "1";
        for (int i = 0; i < 8; i++) {
            deep = "if 1=2 or 1=1 and 1=1+1*" + deep + "?1:2end";
        }
        steps(deep, 2);
    }

    private static void bounds() {
        steps("-1", 0);
        steps("99", 99);
        steps("100", 99);
        oats("-1", 0);
        oats("999", 999);
        oats("1000", 999);
        due.is("stride below 0", ruled("stride -1;").would(0, 10, 0), 10);
        due.is("stride beyond 9", ruled("stride 10;").would(0, 10, 0), 46);
        CountingHorses x = ruled("steps 0;");
        x.bridge(5, 9);
        due.is("no step, no bridge", x.would(0, 5, 0), 5);
        due.is("no oats", x.would(0, 5, 1), 0);
        due.is("stride isn't less by mud", muddy("stride 3;").would(0, 0, 0), 12);
        due.is("without it is", muddy("oats 3;").would(0, 0, 0), 4);
    }

    private static CountingHorses muddy(String text) {
        CountingHorses x = ruled(text);
        x.mud(0, 299, 2);
        return x;
    }

    private static void names() {
        CountingHorses x = ruled("steps horse*10+count;oats shoe*100+day;");
        due.is("steps of 0", x.would(0, 0, 2), 4);
        due.is("steps of 1", x.would(1, 0, 2), 12);
        due.is("oats of 1", x.would(1, 0, 1), 500);
        x.pass(7);
        due.is("oats of 1 on day 7", x.would(1, 0, 1), 507);
        due.is("oats of 0 on day 7", x.would(0, 0, 1), 307);
        x.undo();
        due.is("a day taken back", x.would(0, 0, 1), 306);
        due.is("gone", ruled("oats gone*2+1;").would(0, 5, 1), 25);
    }

    private static void places() {
        CountingHorses x = ruled("steps place+mud*10;stride if step = 2 ? mud : place end;");
        x.mud(2, 2, 3);
        x.mud(4, 4, 7);
        due.is("steps by where it sets out", x.would(0, 2, 2), 32);
        due.is("steps of another", x.would(0, 3, 2), 3);
        // 3, by place 3 to 6, by mud 0 to 6, by place 6 to 12.
        due.is("strides by where it is", x.would(0, 3, 0), 12);
        // 2 steps on from 2: 2 to 4, by mud 7 to 11, then by 9 (place is more) 30 times.
        due.is("mud where it is", x.would(0, 2, 0), 281);
        CountingHorses y = ruled("stride step;");
        due.is("1+2+3+4", y.would(0, 0, 0), 10);
        due.is("1+2", y.would(1, 0, 0), 3);
        due.is("gone by 10", y.would(0, 0, 1), 1);
    }
}
