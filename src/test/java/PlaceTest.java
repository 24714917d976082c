/** Promise 4: place. */
public final class PlaceTest {
    public static void main(String[] args) {
        SignDesk desk = new SignDesk();
        Check.due("place() before any read", desk.place(), -1);
        Check.put(desk, "@1\n\t ?");
        Check.due("place() before the read", desk.place(), -1);
        Check.due("read()", desk.read(), 1);
        Check.due("place()", desk.place(), 5);
        Check.put(desk, "@1");
        desk.go(3);
        desk.set(1, 1);
        Check.due("place() stays till the next read", desk.place(), 5);
        Check.due("read()", desk.read(), 0);
        Check.due("place()", desk.place(), -1);
        Check.put(desk, "?");
        Check.due("read()", desk.read(), 1);
        Check.due("place()", desk.place(), 0);
        Check.due("read() of nothing", desk.read(), 0);
        Check.due("place()", desk.place(), -1);
        Check.fault(" ".repeat(1999) + "?", 1, 1999);
        Check.fault("//" + " ".repeat(1990) + "\n(R0)", 3, 1993);
        Check.end();
    }
}
