/** Promises 24 to 27: who is inside, and who is on shift. */
public final class MenTest {
    private static final Due DUE = new Due();

    public static void main(String[] args) {
        enteringAndLeaving();
        shifts();
        siren();
        DUE.end();
    }

    private static void enteringAndLeaving() {
        PermitRoom room = new PermitRoom();
        Due.live(room, 0, 0, 0, 0);
        Due.live(room, 1, 0, 0, 0);
        room.ask(2, 0, 0);
        DUE.is("enter: no man", room.enter(8, 0), PermitRoom.NUMBER);
        DUE.is("enter: no man below", room.enter(-1, 0), PermitRoom.NUMBER);
        DUE.is("enter: no permit", room.enter(0, 3), PermitRoom.NUMBER);
        DUE.is("enter: no permit below", room.enter(0, -1), PermitRoom.NUMBER);
        DUE.is("leave: no man", room.leave(8), PermitRoom.NUMBER);
        DUE.is("leave: no man below", room.leave(-1), PermitRoom.NUMBER);
        DUE.is("leave: he is out", room.leave(0), PermitRoom.STATE);
        DUE.is("enter: one", room.enter(0, 1), 1);
        DUE.is("enter: another", room.enter(7, 1), 2);
        DUE.is("enter: elsewhere", room.enter(3, 0), 1);
        DUE.is("enter: inside already", room.enter(0, 0), PermitRoom.STATE);
        DUE.is("enter: state is named ahead of the bar", room.enter(0, 2), PermitRoom.STATE);
        DUE.is("enter: a bar", room.enter(1, 2), PermitRoom.BAR - 1);
        room.shift(2, false);
        DUE.is("enter: he is off", room.enter(2, 1), PermitRoom.STATE);
        DUE.is("enter: how many inside", room.many(6), 3);
        DUE.is("leave: for which", room.leave(7), 1);
        DUE.is("leave: again", room.leave(7), PermitRoom.STATE);
        DUE.is("leave: one is left", room.permitOf(1, 5), 1);
        DUE.is("leave: for the first", room.leave(3), 0);
        DUE.is("enter: once more", room.enter(7, 0), 1);
    }

    private static void shifts() {
        PermitRoom room = new PermitRoom();
        DUE.is("shift: no man", room.shift(8, false), PermitRoom.NUMBER);
        DUE.is("shift: no man below", room.shift(-1, true), PermitRoom.NUMBER);
        DUE.is("shift: on already", room.shift(0, true), PermitRoom.STATE);
        DUE.is("shift: off", room.shift(0, false), 1);
        DUE.is("shift: off already", room.shift(0, false), PermitRoom.STATE);
        DUE.is("shift: how many are on", room.many(7), 7);
        DUE.is("shift: on", room.shift(0, true), 1);
        int permit = Due.ready(room, 0, 0, 0, 3);
        DUE.is("shift: holds one that isn't live", room.shift(3, false), 1);
        room.shift(3, true);
        room.start(permit);
        DUE.is("shift: holds one that is live", room.shift(3, false), PermitRoom.STATE);
        room.enter(4, permit);
        DUE.is("shift: is inside", room.shift(4, false), PermitRoom.STATE);
        room.leave(4);
        DUE.is("shift: is out again", room.shift(4, false), 1);
        room.hold(permit, 5);
        DUE.is("shift: holds it no more", room.shift(3, false), 1);
        DUE.is("shift: holds it now", room.shift(5, false), PermitRoom.STATE);
    }

    private static void siren() {
        PermitRoom room = new PermitRoom();
        DUE.is("siren: nobody", room.siren(), 0);
        Due.live(room, 0, 0, 0, 0);
        Due.live(room, 1, 1, 0, 0);
        Due.ready(room, 2, 2, 0, 0);
        room.enter(1, 0);
        room.enter(2, 1);
        room.enter(3, 1);
        room.go(9);
        DUE.is("siren: three", room.siren(), 3);
        DUE.is("siren: none inside", room.many(6), 0);
        DUE.is("siren: none live", room.many(4), 0);
        DUE.is("siren: hung", room.permitOf(0, 3), 4);
        DUE.is("siren: hung too", room.permitOf(1, 3), 4);
        DUE.is("siren: not this one", room.permitOf(2, 3), 2);
        DUE.is("siren: live till now", room.permitOf(1, 8), 9);
        DUE.is("siren: he is out", room.leave(2), PermitRoom.STATE);
        room.go(1);
        DUE.is("siren: again", room.siren(), 0);
        room.start(0);
        room.enter(0, 0);
        DUE.is("siren: the first man too", room.siren(), 1);
        DUE.is("siren: he came out", room.many(6), 0);
        DUE.is("siren: live till then", room.permitOf(1, 8), 9);
    }
}
