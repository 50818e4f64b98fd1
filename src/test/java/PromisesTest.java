/**
 * The document's promises one by one. The answers were worked out by hand from the document.
 * How they are told: see Lines.
 */
public final class PromisesTest {
  private static final Lines LINES = new Lines("PromisesTest");

  /** gutter a - fork b - fall c - kitchen d, or rat e - kitchen f. */
  private static final String TOWN = "town gb;dce;fd2;k;rf3;k = 6\n";
  /** fork a - fork b - mill d that always grinds, or kitchen e; or, from a, kitchen c. */
  private static final String FORKS = "town dbc;dde;k;mc09;k = 5\n";
  /** Eleven gutters a .. k, one behind the other, and kitchen l. */
  private static final String LONG = "town gb;gc;gd;ge;gf;gg;gh;gi;gj;gk;gl;k = 12\n";

  public static void main(String[] args) {
    texts();
    rules();
    townCalls();
    thingCalls();
    minutes();
    days();
    undoing();
    whatWillBe();
    oneAlone();
    planks();
    corks();
    oddsMarksOrders();
    kept();
    LINES.end();
  }

  private static void texts() {
    promise("1", """
        count(0) = 0
        count(1) = 0
        count(2) = 0
        count(3) = 0
        count(4) = 0
        count(8) = 0
        count(9) = 0
        count(10) = 0
        count(11) = 0
        place(0,0) = throws
        of(0,0) = throws
        row(0) = throws
        """);
    promise("2", """
        sign(1734490987) = 4
        town() = 2
        place(0,0) = 0
        place(0,1) = 1
        place(1,0) = 6
        sign(-1) = 4
        town() = -1
        count(11) = 0
        sign(1731214080) = 4
        town() = -2
        """ + "sign(1) = 4\nsign(1) = 8\nsign(1) = 12\nsign(1) = 16\nsign(1) = 20\nsign(1) = 24\nsign(1) = 28\nsign(1) = 32\n"
        + "sign(1) = 36\nsign(1) = 40\nsign(1) = 44\nsign(1) = 48\nsign(1) = 52\nsign(1) = 56\nsign(1) = 60\nsign(1) = 64\n"
        + "sign(1) = 68\nsign(1) = 72\nsign(1) = 76\nsign(1) = 80\nsign(1) = -1\ncount(11) = 80\nend(78) = 1\nsign(1) = -1\ncount(11) = 78\n");
    promise("3", """
        end(0) = 1
        end(1) = 0
        end(-1) = 0
        sign(1802201963) = 4
        end(5) = 0
        end(-1) = 0
        count(11) = 4
        end(4) = 1
        end(2) = 1
        end(3) = 0
        count(11) = 2
        sign(1802201963) = 6
        end(-2147483648) = 0
        """);
    promise("4", """
        town = 0
        town k = 1
        town x = -1
        town ;k = -1
        town K = -1
        town k; = -3
        town k;; = -3
        town kk = -2
        town g = -2
        town g;k = -2
        town ga = 1
        town gb = -2
        town gm = -2
        town gaa = -3
        town da = -3
        town da; = -3
        town daa = 1
        town dab = -3
        town dba = -2
        town dam = -3
        town fa = -3
        town fa0 = -3
        town fa1 = 1
        town fa9 = 1
        town fa11 = -4
        town ra0 = -3
        town ra9 = 1
        town ma = -3
        town mab = -3
        town ma0 = -4
        town ma00 = 1
        town ma99 = 1
        town ma98 = -4
        town ma10 = -4
        town ma123 = -5
        town ia1 = -3
        town ia2 = 1
        town ia0 = -3
        town gc;gd;k = -5
        town gd;gc;k = -2
        town gl;gm = -5
        town gl;g = -5
        town gb;dcl;k = -6
        town k;k;k;k;k;k;k;k;k;k;k;k = 12
        town k;k;k;k;k;k;k;k;k;k;k;k; = -25
        town k;k;k;k;k;k;k;k;k;k;k;k;k = -25
        town k;k;k;k;k;k;k;k;k;k;k;kk = -24
        town k;k;k;k;k;k;k;k;k;k;k;gl = 12
        town gl;k;k;k;k;k;k;k;k;k;k;k;k = -26
        town mb00;mc11;md22;me33;mf44;mg55;mh66;mi77;mj88;mk99;ml09;ma19 = 12
        town mb00;mc11;md22;me33;mf44;mg55;mh66;mi77;mj88;mk99;ml09;ma19;mb00;mb00;mb00;mb0 = -61
        count(0) = 12
        """);
    promise("4", TOWN + """
        put(0,9,0,0) = 0
        plank(1,1) = 1
        run(1) = 0 | 0 0
        cork(0,0,3) = 1
        keep(0) = 1
        homes(0) = 0 | 0 1
        town gz = -2
        count(0) = 6
        count(1) = 1
        count(2) = 1
        count(4) = 2
        count(8) = 3
        count(9) = 1
        count(10) = 2
        town gb;dce;fd2;k;rf3;k = 6 | 0 1
        count(1) = 0
        count(2) = 0
        count(3) = 2
        count(4) = 0
        count(8) = 0
        count(9) = 0
        undo() = -1
        again(0) = 0
        town = 0
        count(0) = 0
        """);
    // THE WATER and THE RULE are no part of THE TOWN.
    promise("4", """
        water 2 = 1
        rule 1 = 0
        town dbc;k;k = 3
        flow(0) = 2
        sail(0,9,0,0,2) = 1
        """);
    promise("5", """
        water = 0
        flow(0) = 1
        water 0123 = 4
        flow(0) = 0
        flow(9) = 0
        flow(10) = 1
        flow(29) = 2
        flow(30) = 3
        flow(40) = 0
        water 4 = -1
        water 01x = -3
        water 0 1 = -2
        flow(30) = 3
        water 1111111111222222222233333333330000000000 = 40
        flow(100) = 2
        flow(400) = 1
        water 11111111112222222222333333333300000000001 = -41
        water 1111111111222222222233333333330000000000x = -41
        water 111111111122222222223333333333000000000x1 = -40
        flow(299) = 3
        water = 0
        flow(299) = 1
        count(11) = 0
        """);
  }

  private static void rules() {
    promise("6", """
        rule = 0
        rule p = 0
        rule x = -1
        rule P = -1
        rule + = -1
        rule +p = -1
        rule - = -2
        rule p+ = -3
        rule p- = -3
        rule p-- = -4
        rule pp = -2
        rule p1 = -2
        rule 1p = -2
        rule 1 = 0
        rule 123 = 0
        rule 1234 = -4
        rule 1+1234 = -6
        rule 12 3 = -3
        rule ( = -2
        rule () = -2
        rule (p = -3
        rule (p) = 0
        rule (p)) = -4
        rule p) = -2
        rule ) = -1
        rule (p)p = -4
        rule (p)1 = -4
        rule (p)(p) = -4
        rule ((((p)))) = 0
        rule (((((p))))) = -5
        rule ((((p))))+(((((p))))) = -15
        rule ((((p))))*((((p)))) = 0
        rule p<p = 0
        rule p<p<p = -4
        rule p<p=p = -4
        rule p<p+p>p = -6
        rule (p<p)<p = 0
        rule p<(p<p) = 0
        rule p<(p<p)=1 = -8
        rule (p<p<p) = -5
        rule (p<p)<(p<p)<p = -12
        rule p*+p = -3
        rule p*-p = 0
        rule ---p = 0
        rule p+p+p+p+p+p+p+p+p+p+p+p+p+p+p+p+p+p+p+p = 0
        rule -p+p+p+p+p+p+p+p+p+p+p+p+p+p+p+p+p+p+p+p = 0
        rule p+p+p+p+p+p+p+p+p+p+p+p+p+p+p+p+p+p+p+p+ = -41
        rule p+p+p+p+p+p+p+p+p+p+p+p+p+p+p+p+p+p+p+p+p = -41
        rule -p+p+p+p+p+p+p+p+p+p+p+p+p+p+p+p+p+p+p+p+p = -41
        rule p+p+p+p+p+p+p+p+p+p+p+p+p+p+p+p+p+p+p+pp = -40
        rule p+p+p+p+p+p+p+p+p+p+p+p+p+p+p+p+p+p+p+p+x = -41
        count(11) = 0
        """);
    String[] hold = {"1<2", "2>1", "2=2", "1+2=3", "7/2=3", "-7/2=-3", "7/-2=-3", "7/0=0", "7-2-1=4", "8/4/2=1", "8/4*2=4",
      "2+3*4=14", "2*3+4=10", "2-3*4=-10", "(2+3)*4=20", "-2*3=-6", "-2+3=1", "2--3=5", "---1=-1", "--1", "(1<2)<3", "(1<2)=(3>2)",
      "(1<(2<1))=0", "1-(1-(1-(1-9)))=9", "999*999*999*9>0", "999*999*999*3<0", "12-5", "0-1", "100/7=14",
      "1+2<4", "4>1+2", "3=1+2", "2*-3=-6", "6/-(1+1)=-3", "-(2)", "000=0", "007=7", "p=0", "m=0", "w=1", "i=0", "b=50", "c=4", "n=0", "f=0",
      "((((1))))", "1-1+1", "9/10*10=0", "(0-7)/2*2=-6"};
    String[] not = {"0", "1<1", "1>1", "2<1", "1>2", "1=2", "p", "m", "i", "n", "f", "7/0", "1-1", "0*5", "-0", "(1<2)<1", "1<(2<1)", "3/4", "-3/4",
      "1/(1-1)", "b-50", "c-4", "w-1", "000"};
    StringBuilder b = new StringBuilder("town dbc;k;k = 3\n");
    for (String text : hold) {
      b.append("rule ").append(text).append(" = 0\nsail(0,50,4,0,2) = 1\nsail(0,50,4,0,1) = -2\n");
    }
    for (String text : not) {
      b.append("rule ").append(text).append(" = 0\nsail(0,50,4,0,1) = 1\nsail(0,50,4,0,2) = -2\n");
    }
    promise("6", b.toString());
    // What the letters are, of a THING at a fork: gutter a, fork b, kitchens c and d.
    promise("6", """
        town gb;dcd;k;k = 4
        rule f=1 = 0
        sail(0,9,0,0,3) = 2
        rule m=1 = 0
        sail(0,9,0,0,3) = 2
        sail(0,9,0,1,3) = -2
        rule m=8 = 0
        sail(0,9,0,7,3) = 9
        rule b=8 = 0
        sail(0,9,0,0,3) = 2
        sail(0,8,0,0,2) = 2
        rule c = 0
        sail(0,9,1,0,3) = 2
        sail(0,9,0,0,2) = 2
        water 12 = 2
        rule w=2 = 0
        sail(1,9,0,9,2) = 10
        sail(1,9,0,10,3) = 11
        water = 0
        rule p = 0
        sail(0,9,0,0,2) = 2
        plank(1,1) = 1
        sail(0,9,0,0,3) = 2
        rule = 0
        sail(0,9,0,0,3) = 2
        rule 0 = 0
        sail(0,9,0,0,2) = 2
        rule z = -1
        sail(0,9,0,0,2) = 2
        rule i = 0
        put(1,9,0,0) = 0
        put(1,9,0,0) = 1
        comes(0) = 1 | 2 6
        comes(1) = 1 | 3 10
        rule n = 0
        comes(0) = 1 | 3 10
        comes(1) = 1 | 2 6
        """);
    // Others at a fork are there too if they wait, and if they were LOST there.
    promise("6", """
        town gb;dcd;k;k = 4
        rule n = 0
        put(1,9,0,9) = 0
        put(1,9,0,0) = 1
        comes(1) = 1 | 3 10
        town gb;dcd;k;k = 4
        put(0,0,0,0) = 0
        run(1) = 0 | 0 1
        of(0,0) = 1
        put(1,9,0,0) = 1
        comes(1) = 1 | 3 10
        """);
    // A rule that is refused leaves the old one.
    promise("6", "town dbc;k;k = 3\nrule 1 = 0\nrule 1+ = -3\nsail(0,9,0,0,2) = 1\nrule = 0\nsail(0,9,0,0,2) = -2\n");
  }

  private static void townCalls() {
    promise("7", TOWN + """
        place(0,0) = 0
        place(0,1) = 1
        place(0,2) = -1
        place(0,3) = 0
        place(0,4) = 0
        place(1,0) = 1
        place(1,1) = 2
        place(1,2) = 4
        place(1,3) = 0
        place(1,4) = 0
        place(2,0) = 2
        place(2,1) = 3
        place(2,4) = 2
        place(3,0) = 6
        place(3,1) = -1
        place(3,2) = -1
        place(3,4) = 0
        place(4,0) = 3
        place(4,4) = 3
        place(6,0) = throws
        place(-1,0) = throws
        place(0,6) = throws
        place(0,-1) = throws
        plank(1,1) = 1
        place(1,3) = 1
        put(0,9,0,0) = 0
        put(0,9,0,5) = 1
        put(3,9,0,0) = 2
        place(0,5) = 3
        place(3,5) = 0
        run(1) = 0 | 0 0
        place(0,5) = 2
        place(1,5) = 1
        town mb05;k;ib7;mc99 = 4
        place(0,0) = 4
        place(0,4) = 5
        place(0,2) = -1
        place(2,0) = 5
        place(2,2) = -1
        place(2,4) = 7
        place(3,4) = 99
        """);
    promise("8", TOWN + """
        put(0,5,2,3) = 0
        of(0,0) = 0
        of(0,1) = 5
        of(0,2) = 2
        of(0,3) = 1
        of(0,4) = 0
        of(0,5) = 3
        of(0,6) = -1
        run(3) = 0 | 0 0
        of(0,0) = 0
        of(0,5) = 0
        run(1) = 0 | 0 0
        of(0,0) = 1
        of(0,1) = 4
        of(0,3) = 3
        of(0,5) = 0
        run(1) = 0 | 0 0
        of(0,0) = 2
        of(0,3) = 7
        run(1) = 1 | 1 0
        of(0,0) = 3
        of(0,1) = 0
        of(0,3) = 15
        of(0,4) = 1
        of(0,6) = 5
        put(2,2,0,0) = 1
        run(1) = 0 | 0 2
        of(1,0) = 3
        of(1,1) = 0
        of(1,3) = 12
        of(1,4) = 2
        of(1,6) = 6
        of(2,0) = throws
        of(-1,0) = throws
        of(0,7) = throws
        of(0,-1) = throws
        """);
    promise("9", """
        flow(0) = 1
        flow(9999) = 1
        flow(10000) = -1
        flow(-1) = -1
        water 0123 = 4
        flow(9999) = 3
        flow(5) = 0
        flow(15) = 1
        """);
    promise("10", TOWN + """
        plank(1,1) = 1
        count(4) = 2
        plank(1,1) = 1
        count(4) = 2
        count(8) = 2
        plank(0,1) = 0
        plank(3,0) = 0
        plank(6,0) = 0
        plank(-1,0) = 0
        plank(32,0) = 0
        plank(1,2) = 0
        plank(1,-1) = 0
        count(8) = 2
        count(4) = 2
        plank(1,0) = 1
        count(4) = 0
        """);
    promise("11", TOWN + """
        put(0,9,0,0) = 0
        put(0,9,0,0) = 1
        put(0,9,0,0) = 2
        sheet(0,3,100,100) = 143
        of(0,1) = 99
        of(1,1) = 0
        of(2,1) = 44
        sheet(1,2,32767,1) = 99
        of(0,1) = 99
        of(1,1) = 0
        of(2,1) = 0
        sheet(2,3,50,-20) = 90
        of(0,1) = 50
        of(1,1) = 30
        of(2,1) = 10
        sheet(2,3,2147483647,1) = 99
        of(1,1) = 0
        sheet(0,3,256,1) = 3
        sheet(1,3,65536,1) = 3
        sheet(2,6,7,0) = 21
        sheet(2,0,7,0) = 0
        sheet(2,6,7,0) = 21
        sheet(0,-1,0,0) = -2
        sheet(1,-5,0,0) = -2
        sheet(2,-1,0,0) = -2
        sheet(4,1,0,0) = -1
        sheet(-1,1,0,0) = -1
        sheet(4,-1,0,0) = -1
        sheet(3,7,0,0) = -1
        sheet(0,7,0,0) = -1
        of(2,1) = 7
        sheet(3,-1,0,0) = -3
        of(2,1) = 0
        of(0,1) = 0
        sheet(3,6,5,5) = -3
        count(8) = 3
        sheet(2,3,5,0) = 15
        undo() = 2
        of(1,1) = 9
        """);
  }

  private static void thingCalls() {
    promise("12", TOWN + """
        put(-1,0,0,0) = -1
        put(6,0,0,0) = -1
        put(0,-1,0,0) = -1
        put(0,100,0,0) = -1
        put(0,0,-1,0) = -1
        put(0,0,10,0) = -1
        put(0,0,0,-1) = -1
        put(0,0,0,100) = -1
        count(1) = 0
        count(8) = 0
        put(0,99,9,99) = 0
        of(0,5) = 99
        run(3) = 0 | 0 0
        put(3,0,0,0) = 1
        of(1,4) = 1
        of(1,6) = 3
        of(1,3) = 8
        put(0,0,0,0) = 2
        put(5,1,1,1) = 3
        put(4,1,1,1) = 4
        put(2,1,1,1) = 5
        put(0,0,0,0) = -2
        count(1) = 6
        count(6) = 10
        """);
    promise("13", TOWN + """
        put(0,9,2,0) = 0
        give(0,3) = 5
        give(0,9) = 9
        give(0,1) = 9
        of(0,2) = 9
        count(8) = 4
        give(0,0) = -1
        give(0,10) = -1
        give(0,-1) = -1
        give(1,1) = -1
        give(-1,1) = -1
        put(3,9,2,0) = 1
        give(1,1) = -1
        put(2,0,0,0) = 2
        run(1) = 0 | 0 4
        give(2,1) = -1
        of(2,2) = 0
        """);
  }

  private static void minutes() {
    promise("14", TOWN + """
        put(0,9,0,0) = 0
        put(0,2,0,0) = 1
        run(0) = 0 | 0 0
        run(2) = 0 | 0 0
        run(1) = 1 | 1 2
        run(99) = 0 | 0 0
        count(2) = 102
        run(100) = -1
        run(-1) = -1
        count(2) = 102
        """);
    // WATER 3: three STEPS in a MINUTE; WATER 0: none.
    promise("14", "water 30 = 2\n" + TOWN + """
        put(0,9,0,0) = 0
        run(1) = 1 | 1 0
        of(0,1) = 4
        of(0,6) = 0
        run(9) = 0 | 0 0
        put(0,9,0,0) = 1
        run(10) = 0 | 0 0
        of(1,0) = 0
        run(1) = 1 | 2 0
        """);
    // A boat of 0 is lost by its first step, also if that leads to a kitchen; by none it is not.
    promise("14", "town gb;k = 2\nput(0,0,0,0) = 0\nput(0,1,0,0) = 1\nrun(1) = 1 | 2 1\nof(0,0) = 1\nof(0,3) = 3\nof(0,1) = 0\nof(1,1) = 0\n");
    // Fish: MINUTES divisible by EACH; no more STEPS in that MINUTE.
    promise("14", """
        water 2 = 1
        town gb;ic3;gd;k = 4
        put(0,9,0,0) = 0
        put(0,9,0,1) = 1
        run(1) = 0 | 0 0
        of(0,0) = 2
        of(1,0) = 0
        run(1) = 1 | 1 0
        of(1,0) = 1
        of(1,1) = 8
        run(1) = 0 | 0 0
        of(1,0) = 1
        run(1) = 1 | 2 0
        of(1,6) = 3
        of(1,1) = 6
        """);
    // Rats: the toll is paid by each step from them; one who can't waits without his boat soaking.
    promise("14", """
        water 3 = 1
        town rb2;rc2;k = 3
        put(0,9,3,0) = 0
        put(0,9,4,0) = 1
        put(0,9,1,0) = 2
        run(1) = 1 | 2 0
        of(0,0) = 1
        of(0,1) = 8
        of(0,2) = 1
        of(1,2) = 0
        of(2,0) = 0
        of(2,1) = 9
        of(2,2) = 1
        run(9) = 0 | 0 0
        give(0,1) = 2
        run(1) = 1 | 1 0
        """);
    // Mills: by what is left of the MINUTE divided by 10; LOST at the mill, its boat as it was.
    promise("14", """
        town mb25;k = 2
        put(0,9,0,1) = 0
        put(0,9,0,2) = 1
        put(0,9,0,5) = 2
        put(0,9,0,6) = 3
        put(0,9,0,12) = 4
        run(99) = 2 | 9 22
        of(1,0) = 0
        of(1,1) = 9
        of(1,3) = 1
        of(1,6) = 2
        of(4,6) = 12
        of(3,6) = 6
        """);
    // By numbers: the second sees the fork as the first has left it.
    promise("14", """
        rule n = 0
        town dbc;k;k = 3
        put(0,9,0,0) = 0
        put(0,9,0,0) = 1
        put(0,9,0,0) = 2
        run(1) = 3 | 7 0
        of(0,0) = 2
        of(1,0) = 2
        of(2,0) = 1
        """);
    // Falls: SOAK besides the 1 of each STEP.
    promise("14", "town fb3;k = 2\nput(0,4,0,0) = 0\nput(0,3,0,0) = 1\nrun(1) = 1 | 1 2\nof(0,1) = 0\nof(1,0) = 1\n");
  }

  private static void days() {
    promise("15", TOWN + """
        day = 0 | 0 0
        count(11) = 0
        day x = -1
        count(11) = 0
        day t = -2
        day tm1 = -2
        day ta = -3
        day ta; = -3
        day ta1x = -4
        day ta123 = -5
        day ta12+ = -6
        day ta12+x = -6
        day ta1+12 = -6
        day p = -2
        day pm = -2
        day paa = -3
        day n = -2
        day nx = -2
        day n123 = -4
        day c = -2
        day c1 = -3
        day c10 = -3
        day c1x = -3
        day c111 = -4
        day n1; = -4
        day n1;;n1 = -4
        day ;n1 = -1
        day n1,n1 = -3
        day ta9;n1;x = -8
        count(1) = 0
        count(2) = 0
        count(8) = 0
        count(10) = 2
        day n1;n1;n1;n1;n1;n1;n1;n1;n1;n1;n1;n1;n1;n1;n1;n1;n1;n1;n1;n1 = 20 | 0 0
        count(2) = 20
        day n1;n1;n1;n1;n1;n1;n1;n1;n1;n1;n1;n1;n1;n1;n1;n1;n1;n1;n1;n1; = -61
        day n1;n1;n1;n1;n1;n1;n1;n1;n1;n1;n1;n1;n1;n1;n1;n1;n1;n1;n1;n11 = 20 | 0 0
        day n1;n1;n1;n1;n1;n1;n1;n1;n1;n1;n1;n1;n1;n1;n1;n1;n1;n1;n1;n11; = -61
        day n1;n1;n1;n1;n1;n1;n1;n1;n1;n1;n1;n1;n1;n1;n1;n1;n1;n1;n1;n11x = -61
        day n1;n1;n1;n1;n1;n1;n1;n1;n1;n1;n1;n1;n1;n1;n1;n1;n1;n1;n1;nx = -59
        count(2) = 50
        """);
    promise("15", TOWN + """
        day ta9;n1;pb;ta99+4;c03;n4 = 6 | 0 2
        count(1) = 2
        count(2) = 5
        count(4) = 2
        of(0,0) = 5
        of(0,2) = 0
        of(0,1) = 6
        of(1,0) = 5
        of(1,2) = 1
        of(1,1) = 96
        count(8) = 1
        day td5;n0;n00 = 3 | 0 0
        of(2,4) = 1
        day pa;n1 = 0 | 1 0
        count(8) = 2
        day tg1 = 0 | 1 0
        day tl1 = 0 | 1 0
        day c21 = 0 | 1 0
        day c91 = 0 | 1 0
        count(2) = 5
        day n5;pb;pl;n7 = 2 | 1 0
        count(2) = 10
        count(4) = 0
        count(8) = 3
        day ta1;ta1;ta1;ta1;n1 = 3 | 1 0
        count(1) = 6
        undo() = 3
        count(1) = 3
        undo() = 2
        count(4) = 2
        count(2) = 5
        """);
  }

  private static void undoing() {
    promise("16", TOWN + """
        undo() = -1
        run(0) = 0 | 0 0
        undo() = -1
        put(0,9,0,0) = 0
        plank(1,1) = 1
        give(0,3) = 3
        run(4) = 1 | 1 0
        day n3 = 1 | 0 0
        run(100) = -1
        give(0,1) = -1
        put(9,0,0,0) = -1
        plank(0,0) = 0
        count(8) = 5
        undo() = 4
        count(2) = 4
        undo() = 3
        count(2) = 0
        of(0,0) = 0
        of(0,4) = 0
        of(0,6) = -1
        of(0,2) = 3
        of(0,3) = 1
        of(0,1) = 9
        undo() = 2
        of(0,2) = 0
        undo() = 1
        count(4) = 0
        undo() = 0
        count(1) = 0
        undo() = -1
        """);
    StringBuilder b = new StringBuilder(TOWN);
    for (int k = 1; k <= 17; k++) {
      b.append("run(").append(k).append(") = 0 | 0 0\n");
    }
    b.append("count(8) = 15\n");
    int now = 153;
    for (int k = 17; k >= 3; k--) {
      now -= k;
      b.append("undo() = ").append(k - 3).append("\ncount(2) = ").append(now).append("\n");
    }
    b.append("undo() = -1\n");
    promise("16", b.toString());
    // THE WATER and corks are not undone.
    promise("16", TOWN + """
        plank(1,1) = 1
        cork(0,0,3) = 1
        water 2 = 1
        undo() = 0
        count(9) = 1
        flow(0) = 2
        run(1) = 0 | 0 0
        town x = -1
        again(0) = 0
        count(8) = 1
        keep(1) = 1
        count(8) = 1
        again(1) = 1
        count(8) = 0
        undo() = -1
        """);
  }

  private static void whatWillBe() {
    promise("17", TOWN + """
        put(0,9,2,2) = 0
        where(0,0) = 0 | 0 9 2
        where(0,2) = 0 | 0 9 2
        where(0,3) = 1 | 0 8 2
        where(0,4) = 2 | 0 7 2
        where(0,5) = 3 | 1 4 2
        where(0,300) = 3 | 1 4 2
        where(0,301) = -1
        where(0,-1) = -1
        where(1,0) = -1
        where(-1,0) = -1
        put(2,2,0,0) = 1
        where(1,1) = 3 | 2 0 0
        count(2) = 0
        of(0,0) = 0
        """);
    promise("18", TOWN + """
        put(0,9,0,0) = 0
        put(0,3,0,0) = 1
        put(4,9,2,0) = 2
        put(5,9,2,9) = 3
        comes(0) = 3 | 3 15
        comes(1) = -2 | 3
        comes(2) = -3 | 4
        comes(3) = 0 | 5 32
        comes(4) = -1
        comes(-1) = -1
        run(2) = 0 | 0 0
        comes(0) = 1 | 3 15
        run(9) = 1 | 1 2
        comes(0) = 0 | 3 15
        comes(1) = -2 | 3
        """);
    // Fork a leads to itself till MINUTE 299 (or 300): 300 MINUTES are looked at, and no more.
    promise("18", """
        town ga;k = 2
        water 0 = 1
        put(0,9,0,0) = 0
        comes(0) = -3 | 0
        town ib9;k = 2
        water 000000000000000000000000000001 = 30
        run(3) = 0 | 0 0
        put(0,9,0,0) = 0
        comes(0) = 295 | 1 3
        put(0,9,0,99) = 1
        comes(1) = 295 | 1 3
        """);
    promise("18", """
        town mb08;k = 2
        water 000000000000000000000000000001 = 30
        put(0,9,0,0) = 0
        comes(0) = -2 | 0
        town gb;gc;gd;ge;gf;gg;gh;gi;gj;gk;k = 11
        put(0,99,0,0) = 0
        comes(0) = 300 | 10 2047
        sail(0,99,0,0,10) = 300
        town gb;gc;gd;ge;gf;gg;gh;gi;gj;gk;gl;k = 12
        put(0,99,0,0) = 0
        comes(0) = -3 | 10
        sail(0,99,0,0,11) = -2
        sail(1,99,0,0,11) = 300
        """);
    promise("19", TOWN + """
        put(2,2,0,7) = 0
        put(0,0,0,1) = 1
        put(0,0,0,1) = 2
        lost(1) = -2
        lost(2) = 1 | 2 1
        lost(300) = 1 | 2 1
        lost(0) = -2
        lost(301) = -1
        lost(-1) = -1
        run(5) = 0 | 0 6
        lost(2) = -2
        lost(3) = 0 | 3 3
        """);
    promise("20", TOWN + """
        put(0,9,0,0) = 0
        put(0,0,0,1) = 1
        put(3,0,0,0) = 2
        put(4,0,0,0) = 3
        homes(0) = 4 | 0 11
        homes(2) = 4 | 2 9
        homes(3) = 5 | 2 8
        homes(300) = 5 | 2 8
        homes(301) = -1
        homes(-1) = -1
        count(2) = 0
        """);
  }

  private static void oneAlone() {
    promise("21", TOWN + """
        sail(0,9,0,0,3) = 3
        sail(0,9,0,99,3) = 102
        sail(0,5,0,0,3) = 3
        sail(0,4,0,0,3) = -2
        sail(0,9,0,0,5) = -2
        sail(3,0,0,0,3) = 0
        sail(3,0,0,50,3) = 0
        sail(5,0,0,0,3) = -2
        sail(4,1,3,0,5) = 1
        sail(4,1,2,0,5) = -2
        sail(0,9,0,0,0) = -1
        sail(0,9,0,0,6) = -1
        sail(0,9,0,0,-1) = -1
        sail(6,9,0,0,3) = -1
        sail(-1,9,0,0,3) = -1
        sail(0,100,0,0,3) = -1
        sail(0,-1,0,0,3) = -1
        sail(0,9,10,0,3) = -1
        sail(0,9,-1,0,3) = -1
        sail(0,9,0,100,3) = -1
        sail(0,9,0,-1,3) = -1
        count(10) = 0
        run(4) = 0 | 0 0
        sail(0,9,0,0,3) = 3
        """);
    // No other ones are there, and it is THING 0.
    promise("21", """
        rule n+i = 0
        town dbc;k;k = 3
        put(0,9,0,9) = 0
        put(0,9,0,9) = 1
        sail(0,9,0,0,1) = 1
        sail(0,9,0,0,2) = -2
        ways(0,9,0,1) = 2 | 0 1
        duel(0,9,0,1,2) = 1 | -1
        """);
    promise("22", TOWN + """
        soonest(9,0,3) = 1 | 2 0
        soonest(2,0,3) = -2
        count(10) = 2
        soonest(9,0,5) = -2
        soonest(9,3,5) = 1 | 4 0
        soonest(100,0,3) = -1
        soonest(-1,0,3) = -1
        soonest(9,10,3) = -1
        soonest(9,-1,3) = -1
        soonest(9,0,0) = -1
        soonest(9,0,6) = -1
        """);
    // A mill grinds in MINUTES 0 .. 4, a fish waits: as soon with waits up to 6, and the least is told.
    promise("22", """
        town mb04;k;ib6 = 3
        run(1) = 0 | 0 0
        soonest(9,0,1) = 5 | 0 4
        run(1) = 0 | 0 0
        soonest(9,0,1) = 4 | 0 3
        town k;mc04;ia6 = 3
        run(1) = 0 | 0 0
        soonest(9,0,0) = 6 | 1 4
        town gc;gc;k = 3
        soonest(9,0,2) = 1 | 0 0
        water 0001 = 4
        soonest(9,0,2) = 31 | 0 0
        town mb00;k = 2
        soonest(9,0,1) = -2
        """);
    promise("23", TOWN + """
        basin(9,0,3) = 15 | 47 0
        basin(2,0,3) = 8 | 40 7
        basin(9,3,5) = 48 | 63 0
        basin(0,0,5) = 32 | 40 7
        plank(1,1) = 1
        basin(9,0,3) = 12 | 44 0
        basin(9,3,5) = 51 | 63 0
        basin(9,0,0) = -1
        basin(100,0,3) = -1
        basin(9,10,3) = -1
        basin(-1,0,3) = -1
        basin(9,-1,3) = -1
        """);
    // The mill at a grinds in no MINUTE of the 300, but in the one behind them.
    promise("23", """
        water 0000000000000000000000000000001 = 31
        town mb00;k = 2
        basin(9,0,1) = 2 | 2 0
        run(1) = 0 | 0 0
        basin(9,0,1) = 2 | 2 1
        """);
    promise("24", TOWN + """
        boat(0,0,3) = 5 | 3
        boat(2,0,3) = 3 | 1
        boat(3,0,3) = 0 | 0
        boat(0,0,5) = -2
        boat(4,3,5) = 1 | 1
        boat(6,0,3) = -1
        boat(0,10,3) = -1
        boat(0,-1,3) = -1
        boat(0,0,0) = -1
        rule b<50 = 0
        boat(0,0,3) = 51 | 3
        boat(0,9,5) = 3 | 3
        """);
    promise("25", TOWN + """
        coins(4,9,5) = 3 | 1
        coins(0,9,3) = 0 | 3
        coins(0,9,5) = -2
        coins(4,0,5) = -2
        coins(5,0,5) = 0 | 0
        coins(6,9,3) = -1
        coins(0,100,3) = -1
        coins(0,-1,3) = -1
        coins(0,9,4) = -1
        rule c>4 = 0
        coins(0,9,5) = 5 | 3
        town rb9;k = 2
        coins(0,9,1) = 9 | 1
        """);
    promise("26", TOWN + """
        waits(0,9,0,3) = 1073741823 | 0 3
        waits(0,9,0,5) = 0 | -1 -1
        waits(3,0,0,3) = 1073741823 | 0 0
        waits(6,9,0,3) = -1
        waits(0,100,0,3) = -1
        waits(0,9,10,3) = -1
        waits(0,9,0,0) = -1
        town mb14;k;ib7 = 3
        waits(2,9,0,1) = 1073741823 | 0 1
        """
        + "waits(0,9,0,1) = " + millWaits(0) + " | 0 1\n"
        + "run(1) = 0 | 0 0\n"
        + "waits(0,9,0,1) = " + millWaits(1) + " | 4 1\n"
        + "waits(2,9,0,1) = 1073741823 | 6 1\n");
    promise("27", """
        town gb;ga;k;ga = 4
        round(0) = 2 | 2
        round(1) = 2 | 2
        round(2) = -2
        round(3) = -2
        round(4) = -1
        round(-1) = -1
        town gb;ia3 = 2
        round(0) = 4 | 3
        run(1) = 0 | 0 0
        round(0) = 3 | 3
        round(1) = 4 | 3
        town ga = 1
        round(0) = 1 | 1
        town ia7 = 1
        round(0) = 1 | 7
        run(1) = 0 | 0 0
        round(0) = 7 | 7
        town fa9 = 1
        round(0) = 1 | 1
        town rb9;ra9 = 2
        round(0) = 2 | 2
        water 2 = 1
        round(0) = 1 | 1
        water 3 = 1
        round(0) = 2 | 2
        town ma11 = 1
        round(0) = 1 | -1
        run(1) = 0 | 0 0
        round(0) = -2
        """);
    promise("27", """
        water 1000000000000000000000000000000000000000 = 40
        town gb;gc;gd;ge;gf;ga = 6
        round(0) = 6 | -1
        water = 0
        rule b=99 = 0
        town fb9;dca;k = 3
        round(0) = 2 | 2
        rule c=9 = 0
        town rb9;dca;k = 3
        round(0) = 2 | 2
        """);
  }

  /** Waits 0 .. 29 with which a mill that grinds in 1 .. 4 is not met, from a MINUTE on. */
  private static int millWaits(int now) {
    int bits = 0;
    for (int w = 0; w < 30; w++) {
      int left = (now + w) % 10;
      bits |= left >= 1 && left <= 4 ? 0 : 1 << w;
    }
    return bits;
  }

  private static void planks() {
    promise("28", FORKS + """
        save(0) = 0 | 0 0
        save(1) = -1
        put(0,9,0,0) = 0
        save(1) = 1 | 1 1
        save(2) = -1
        save(-1) = -1
        put(0,9,0,5) = 1
        save(2) = 1 | 1 6
        save(3) = 1 | 1 6
        put(1,9,0,0) = 2
        save(4) = 1 | 2 1
        save(5) = 1 | 2 2
        save(7) = 1 | 2 7
        put(3,9,0,0) = 3
        save(8) = -2
        save(15) = -2
        save(16) = -1
        plank(0,1) = 1
        save(1) = 0 | 0 1
        save(5) = 1 | 2 1
        put(2,0,0,0) = 4
        save(16) = 0 | 0 0
        save(17) = 0 | 0 1
        count(4) = 1
        """);
    // Two planks must be turned: fork a to fork b to fork c to kitchen d; all else is a mill.
    promise("28", """
        town dbe;dec;ded;k;md09 = 5
        put(0,9,0,0) = 0
        save(1) = 2 | 6 3
        plank(0,1) = 1
        save(1) = 3 | 7 3
        """);
    promise("29", FORKS + """
        put(0,9,0,0) = 0
        steer(0,2) = 1 | 1 1
        steer(0,4) = 1 | 2 2
        plank(0,1) = 1
        steer(0,2) = 0 | 0 1
        steer(0,4) = 2 | 3 2
        put(1,9,0,3) = 1
        steer(1,4) = 1 | 2 4
        steer(1,2) = -2
        put(4,9,0,3) = 2
        steer(2,4) = 0 | 0 0
        steer(2,2) = -2
        steer(3,2) = -1
        steer(-1,2) = -1
        steer(0,0) = -1
        steer(0,5) = -1
        run(1) = 1 | 1 0
        steer(0,2) = 0 | 0 0
        """);
    promise("30", FORKS + """
        ways(0,9,0,2) = 2 | 1 3
        ways(0,9,0,4) = 1 | 2 2
        ways(1,9,0,4) = 2 | 2 3
        ways(1,9,0,2) = 0 | -1 -1
        ways(2,9,0,2) = 4 | 0 3
        plank(0,1) = 1
        ways(0,9,0,2) = 2 | 1 3
        ways(5,9,0,2) = -1
        ways(0,100,0,2) = -1
        ways(0,9,10,2) = -1
        ways(0,9,0,3) = -1
        ways(0,0,0,2) = 0 | -1 -1
        rule m+1-p = 0
        ways(0,9,0,1) = -1
        town dbc;k;k = 3
        ways(0,9,0,1) = 1 | 1 1
        ways(0,9,0,2) = 1 | 0 0
        run(1) = 0 | 0 0
        ways(0,9,0,1) = 0 | -1 -1
        ways(0,9,0,2) = 2 | 0 1
        """);
    promise("31", FORKS + """
        duel(0,9,0,2,0) = 0 | -1
        duel(0,9,0,2,1) = 1 | 0
        duel(0,9,0,2,2) = 0 | -1
        duel(0,9,0,2,3) = 1 | -1
        duel(0,9,0,4,0) = 0 | -1
        duel(0,9,0,4,1) = 1 | 1
        duel(0,9,0,4,2) = 0 | -1
        duel(0,9,0,4,3) = 1 | 1
        duel(2,9,0,2,2) = 1 | -1
        duel(1,9,0,2,3) = 0 | -1
        duel(0,9,0,2,4) = -1
        duel(0,9,0,2,-1) = -1
        duel(5,9,0,2,1) = -1
        duel(0,100,0,2,1) = -1
        duel(0,9,10,2,1) = -1
        duel(0,9,0,3,1) = -1
        plank(0,1) = 1
        duel(0,9,0,2,0) = 1 | -1
        duel(0,9,0,2,1) = 1 | -1
        duel(0,9,0,4,1) = 0 | -1
        count(4) = 1
        """);
  }

  private static void corks() {
    promise("32", FORKS + """
        cork(0,0,2) = 1
        cork(0,999,-1) = 2
        cork(5,0,2) = -1
        cork(-1,0,2) = -1
        cork(0,-1,2) = -1
        cork(0,1000,2) = -1
        cork(0,0,3) = -1
        cork(0,0,-2) = -1
        cork(0,0,5) = -1
        cork(4,5,2) = 3
        cork(4,5,2) = 4
        cork(4,5,2) = 5
        cork(4,5,2) = 6
        cork(4,5,2) = 7
        cork(4,5,2) = 8
        cork(4,5,2) = 9
        cork(4,5,2) = 10
        cork(4,5,2) = -1
        count(9) = 10
        """);
    promise("33", FORKS + """
        forget() = 0
        cork(0,0,2) = 1
        cork(0,1,2) = 2
        forget() = 2
        forget() = 0
        count(9) = 0
        """);
    promise("34", """
        maps() = 1 | 0 0 0
        town dbc;dde;k;mc09;k = 5
        maps() = 4 | 0 0 0
        cork(0,0,2) = 1
        maps() = 2 | 1 1 0
        cork(1,7,-1) = 2
        maps() = 1 | 1 1 2
        plank(0,1) = 1
        maps() = 1 | 1 1 2
        forget() = 2
        cork(0,0,-1) = 1
        maps() = 1 | 0 0 3
        forget() = 1
        cork(2,0,2) = 1
        maps() = 4 | 0 0 0
        cork(2,0,-1) = 2
        maps() = 0 | -1 3 3
        next(0) = -2
        """);
    // Corks have no COINS, BOAT 99, and the MINUTE that was told.
    promise("34", """
        town rb1;k = 2
        cork(0,0,1) = 1
        maps() = 0 | -1 0 0
        rule b=99 = 0
        town dbc;k;k = 3
        cork(0,0,2) = 1
        maps() = 2 | 0 0 0
        rule m=7 = 0
        maps() = 0 | -1 1 1
        forget() = 1
        cork(0,7,2) = 1
        cork(0,8,1) = 2
        maps() = 2 | 0 0 0
        """);
    promise("35", "next(0) = -1\n" + FORKS + """
        next(-1) = -1
        next(1000) = -1
        next(999) = 0 | 2
        cork(0,0,2) = 1
        next(0) = 1 | 1
        cork(1,0,4) = 2
        next(0) = 0 | 1
        cork(1,0,-1) = 3
        next(0) = -2
        town k;dac;gd;k = 4
        next(0) = 1 | 1
        town k;ga = 2
        next(0) = 0 | 1
        town ga = 1
        next(0) = 0 | 1
        town k;dac;mc09 = 3
        next(0) = 1 | 1
        cork(1,0,0) = 1
        maps() = 1 | 0 0 2
        rule m>4 = 0
        town k;dac;dad;k = 4
        next(0) = 0 | 4
        """);
    // Kitchens and 'not' each leave their own: fork a - fork b - kitchens c, d; or mill e.
    promise("35", "town dbe;dcd;k;k;mc09 = 5\nnext(0) = 0 | 2\ncork(0,0,-1) = 1\nnext(0) = 1 | 1\n");
  }

  private static void oddsMarksOrders() {
    promise("36", LONG + """
        put(0,99,0,0) = 0
        odds(0,10,3) = 0 | 3 10
        odds(0,5,3) = 0 | 0 1
        odds(0,6,5) = 0 | 1 2
        odds(0,11,3) = 0 | 1 1
        odds(0,10,0) = 0 | 0 1
        odds(0,10,10) = 0 | 1 1
        odds(0,0,5) = 0 | 0 1
        odds(1,10,3) = -1
        odds(-1,10,3) = -1
        odds(0,-1,3) = -1
        odds(0,61,3) = -1
        odds(0,10,-1) = -1
        odds(0,10,11) = -1
        put(11,0,0,0) = 1
        odds(1,0,5) = 0 | 1 1
        count(2) = 0
        water 3 = 1
        odds(0,3,10) = 0 | 0 1
        odds(0,4,10) = 0 | 1 1
        """);
    promise("36", LONG + """
        run(5) = 0 | 0 0
        put(0,99,0,0) = 0
        odds(0,8,5) = 0 | 1 2
        odds(0,7,5) = 0 | 0 1
        odds(0,10,5) = 0 | 1 2
        odds(0,11,5) = 0 | 1 1
        odds(0,60,5) = 0 | 1 1
        """);
    promise("36", "town gb;gc;k = 3\nput(0,9,0,0) = 0\nodds(0,1,7) = 0 | 7 10\nodds(0,1,0) = 0 | 0 1\n");
    promise("36", "water 0 = 1\n" + LONG + """
        put(0,99,0,0) = 0
        odds(0,10,5) = 0 | 0 1
        odds(0,20,5) = 0 | 1 4
        odds(0,30,5) = 0 | 1 2
        odds(0,30,2) = 0 | 13 125
        odds(0,60,5) = 0 | 57 64
        odds(0,60,10) = 0 | 1 1
        run(1) = 0 | 0 0
        odds(0,29,5) = 0 | 1 4
        odds(0,60,5) = 0 | 57 64
        odds(0,59,5) = 0 | 13 16
        flow(0) = 0
        """);
    promise("37", TOWN + """
        marks(9,0,15) = 10 | 0 0 1
        marks(9,0,14) = 10 | 1 0 2
        marks(9,0,8) = 10 | 3 0 8
        marks(9,0,32) = 10 | 5 0 32
        marks(9,0,48) = 0 | 0
        marks(9,3,48) = 10 | 4 0 16
        marks(9,0,0) = 0 | 0
        marks(9,0,4095) = 0 | 0
        marks(2,0,12) = 0 | 0
        marks(100,0,1) = -1
        marks(-1,0,1) = -1
        marks(9,10,1) = -1
        marks(9,-1,1) = -1
        marks(9,0,4096) = -1
        marks(9,0,-1) = -1
        town mb06;k = 2
        marks(9,0,3) = 3 | 0 7 1
        rule m-m/2*2 = 0
        town dbc;gc;k = 3
        marks(9,0,7) = 5 | 0 0 1
        marks(9,0,5) = 5 | 0 1 1
        marks(9,0,6) = 10 | 1 0 2
        """);
    promise("38", """
        town mb03;k;gb = 3
        put(0,9,0,50) = 0
        put(0,9,0,0) = 1
        put(2,9,0,9) = 2
        put(1,9,0,0) = 3
        put(2,0,0,0) = 4
        order(0,1) = 8 | 4 4 1
        order(0,2) = 4 | 4 0 1
        order(2,0) = 4 | 0 4 1
        order(2,4) = -2
        order(0,0) = -1
        order(0,3) = -1
        order(3,0) = -1
        order(0,5) = -1
        order(-1,0) = -1
        of(0,5) = 50
        run(1) = 0 | 0 18
        order(0,1) = -1
        order(0,2) = 3 | 3 0 1
        """);
    // The one who goes first from the fork must not be seen by the other: gutter a, fork b.
    promise("38", """
        rule n = 0
        town gb;dcd;k;mc09 = 4
        put(0,9,0,0) = 0
        put(0,9,0,0) = 1
        order(0,1) = 1 | 0 1 1
        order(1,0) = 1 | 1 0 1
        town mb09;k = 2
        put(0,9,0,0) = 0
        put(0,9,0,0) = 1
        order(0,1) = -2
        town mb08;k = 2
        put(0,9,0,0) = 0
        put(0,9,0,0) = 1
        order(0,1) = 18 | 9 9 1
        """);
    // Thing 0 has a STEP more to go: whichever waits one MINUTE, they don't meet in MINUTE 1 at fork c.
    promise("38", """
        rule (n>0)*(m=1) = 0
        town gb;gc;dde;k;md09 = 5
        put(0,9,0,0) = 0
        put(1,9,0,0) = 1
        order(0,1) = 1 | 0 1 2
        order(1,0) = 1 | 0 1 2
        """);
  }

  private static void kept() {
    promise("39 40", TOWN + """
        again(0) = 0
        keep(3) = 0
        keep(-1) = 0
        again(3) = 0
        again(-1) = 0
        put(0,9,0,0) = 0
        keep(0) = 1
        plank(1,1) = 1
        run(2) = 0 | 0 0
        keep(2) = 1
        again(1) = 0
        count(8) = 3
        run(5) = 0 | 0 0
        put(0,1,1,1) = 1
        again(0) = 1
        count(1) = 1
        count(2) = 0
        count(4) = 0
        of(0,0) = 0
        of(0,1) = 9
        count(8) = 0
        run(1) = 0 | 0 0
        again(2) = 1
        count(2) = 2
        count(4) = 2
        of(0,0) = 4
        run(9) = 0 | 0 0
        again(0) = 1
        count(2) = 0
        keep(0) = 1
        cork(0,0,3) = 1
        again(2) = 1
        count(9) = 1
        keep(32) = 0
        again(32) = 0
        again(-32) = 0
        again(2147483647) = 0
        """);
    promise("41", TOWN + """
        put(0,9,0,0) = 0
        put(2,0,0,0) = 1
        put(5,0,0,0) = 2
        plank(1,1) = 1
        run(1) = 0 | 0 2
        cork(0,0,3) = 1
        sign(0) = 4
        count(0) = 6
        count(1) = 3
        count(2) = 1
        count(3) = 2
        count(4) = 2
        count(5) = 1
        count(6) = 4
        count(7) = 2
        count(8) = 5
        count(9) = 1
        count(10) = 2
        count(11) = 4
        count(12) = -100
        count(-1) = -100
        count(2147483647) = -100
        """);
    promise("42", TOWN + """
        row(0) = throws
        put(0,9,0,0) = 0
        where(0,1) = 1 | 0 8 0
        row(0) = 0
        row(1) = 8
        row(2) = 0
        row(3) = throws
        row(-1) = throws
        where(0,301) = -1 | 0 8 0
        sail(0,9,0,0,3) = 3 | 0 8 0
        lost(3) = -2 | 0 8 0
        round(0) = -2 | 0 8 0
        round(9) = -1 | 0 8 0
        coins(4,9,5) = 3 | 1
        row(1) = throws
        """);
  }

  private static void promise(String number, String text) {
    LINES.check("promise " + number, text);
  }
}
