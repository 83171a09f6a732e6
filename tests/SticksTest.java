/** Promises 49 and 50. */
public final class SticksTest {
    public static void main(String[] args) {
        see();
        sticks();
        sticksAtTheEdges();
        noneLeavesTheRow();
        Due.end();
    }

    private static void see() {
        HallGlass x = new HallGlass();
        Due.is("see(-1000, 0)", x.see(-1000, 0), -1);
        Due.is("see(2000, 0)", x.see(2000, 0), -1);
        Due.is("see(0, -1000)", x.see(0, -1000), -1);
        Due.is("see(0, 2000)", x.see(0, 2000), -1);
        Due.is("count(5)", x.count(5), 0);
        Due.is("see(-999, 1999)", x.see(-999, 1999), 1);
        Due.is("see(1999, -999)", x.see(1999, -999), 2);
        for (int i = 3; i <= 20; i++) {
            Due.is("see " + i, x.see(0, 0), i);
        }
        Due.is("see 21", x.see(0, 0), -1);
        Due.is("count(5) then", x.count(5), 20);
    }

    private static void sticks() {
        HallGlass x = new HallGlass();
        Due.is("sticks of nothing", x, x.sticks(), 41, 0, 40);
        x.see(7, 100);
        Due.is("sticks of the first", x, x.sticks(), 41, 0, 40);
        x.see(100, 103);
        Due.is("sticks: it stayed over 3", x, x.sticks(), 38, 3, 40);
        x.see(91, 91);
        Due.is("sticks: it went over 12", x, x.sticks(), 9, 3, 11);
        x.see(91, 91);
        Due.is("sticks: nothing to go over", x, x.sticks(), 9, 3, 11);
        x.see(91, 81);
        Due.is("sticks: it stayed over 10", x, x.sticks(), 2, 10, 11);
        x.see(92, 92);
        Due.is("sticks: it went over 11", x, x.sticks(), 1, 10, 10);
        x.see(92, 103);
        Due.is("sticks: none, the ROW stays", x, x.sticks(), 0, 10, 10);
        x.see(103, 103);
        Due.is("sticks: none at last, the ROW stays", x, x.sticks(), 0, 10, 10);
    }

    private static void sticksAtTheEdges() {
        HallGlass x = new HallGlass();
        x.see(0, 100);
        x.see(100, 140);
        Due.is("it stayed over 40", x, x.sticks(), 1, 40, 40);
        x = new HallGlass();
        x.see(0, 100);
        x.see(100, 141);
        Due.is("it stayed over 41", x, x.sticks(), 0);
        x = new HallGlass();
        x.see(0, 100);
        x.see(101, 101);
        Due.is("it went over 1", x, x.sticks(), 1, 0, 0);
        x = new HallGlass();
        x.see(0, 100);
        x.see(99, 98);
        Due.is("it stood at neither", x, x.sticks(), 0);
        x = new HallGlass();
        x.see(0, -999);
        x.see(1999, 1999);
        Due.is("it went as far as can be", x, x.sticks(), 41, 0, 40);
    }

    /** With 0 there is neither a least nor a greatest: the ROW is that of the call before, whichever it was. */
    private static void noneLeavesTheRow() {
        HallGlass x = new HallGlass();
        x.see(0, 0);
        x.see(1, 0);
        Due.is("none, where no ROW was told yet", x, x.sticks(), 0);
        x.hedge(70, 1);
        Due.is("none behind hedge()", x, x.sticks(), 0, 3000, 4200);
        x.table(0, 0, 0);
        Due.is("none behind a refused call", x, x.sticks(), 0, 3000, 4200);
        x.fields(1);
        Due.is("none behind an empty ROW", x, x.sticks(), 0);
    }
}
