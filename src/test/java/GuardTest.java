/** Promises 11 and 12: arm and turn. */
public final class GuardTest {
    private static final byte[] NONE = new byte[0];

    public static void main(String[] args) {
        armed();
        turned();
        guardsStandAlone();
        secretIsACopy();
        armedAgain();
        refusals();
        Check.end();
    }

    /** A guard's key and IV are seen by sealing, its HIDE by shielding. */
    private static void dueGuard(String what, SealBox box, int guard, byte[] secret, byte[] hideSecret) {
        byte[] packet = Check.sample(50, 3);
        byte[] key = Reference.label(secret, 0, NONE, 32);
        byte[] iv = Reference.label(secret, 1, NONE, 12);
        Check.feed(box, packet);
        box.seal(guard, 99, 4);
        Check.out("a seal of " + what, box, Reference.seal(key, iv, 99, packet, 4));
        byte[] hide = Reference.label(hideSecret, 2, NONE, 32);
        Check.feed(box, packet);
        box.shield(guard, 9, true);
        Check.out("a shield of " + what, box, Reference.shield(hide, packet, 9));
    }

    private static byte[] next(byte[] secret) {
        return Reference.label(secret, 3, NONE, 32);
    }

    private static SealBox boxWith(byte[] secret) {
        SealBox box = new SealBox();
        Check.keep(box, 2, secret);
        return box;
    }

    private static void armed() {
        byte[] secret = Check.sample(32, 1);
        SealBox box = boxWith(secret);
        box.stretch(2, 40);
        byte[] out = Check.readOut(box);
        box.feed(8, 5);
        box.arm(0, 2);
        Check.due("the phase of an armed guard", 0, () -> box.look(10));
        Check.due("arm leaves the tape", 8, () -> box.look(0));
        Check.due("arm leaves the slot", 32, () -> box.look(4));
        Check.out("arm leaves it", box, out);
        box.wipe();
        dueGuard("an armed guard", box, 0, secret, secret);
    }

    private static void turned() {
        byte[] secret = Check.sample(32, 2);
        SealBox box = boxWith(secret);
        box.stretch(2, 40);
        byte[] out = Check.readOut(box);
        box.feed(8, 5);
        box.arm(3, 2);
        Check.due("turn(3)", 1, () -> box.turn(3));
        Check.due("its phase", 1, () -> box.look(13));
        Check.due("turn leaves the tape", 8, () -> box.look(0));
        Check.out("turn leaves it", box, out);
        box.wipe();
        dueGuard("a turned guard", box, 3, next(secret), secret);
        Check.due("turn(3) again", 0, () -> box.turn(3));
        Check.due("its phase", 0, () -> box.look(13));
        dueGuard("a guard turned twice", box, 3, next(next(secret)), secret);
        Check.due("turn(3) once more", 1, () -> box.turn(3));
        dueGuard("a guard turned three times", box, 3, next(next(next(secret))), secret);
    }

    private static void guardsStandAlone() {
        SealBox box = new SealBox();
        for (int i = 0; i < 4; i++) {
            Check.keep(box, i, Check.sample(32, i));
            box.arm(i, i);
        }
        box.turn(2);
        for (int i = 0; i < 4; i++) {
            byte[] secret = Check.sample(32, i);
            dueGuard("guard " + i, box, i, i == 2 ? next(secret) : secret, secret);
        }
        box.arm(0, 1);
        dueGuard("guard 0 with the secret of another", box, 0, Check.sample(32, 1), Check.sample(32, 1));
        box.turn(0);
        dueGuard("that other", box, 1, Check.sample(32, 1), Check.sample(32, 1));
    }

    private static void secretIsACopy() {
        byte[] secret = Check.sample(32, 4);
        SealBox box = boxWith(secret);
        box.arm(1, 2);
        Check.keep(box, 2, Check.sample(32, 5));
        box.turn(1);
        dueGuard("a guard whose slot is another", box, 1, next(secret), secret);
        box.arm(2, 2);
        box.turn(2);
        Check.feed(box, Check.sample(3, 1));
        box.mac(2);
        Check.out("a slot whose guard is turned", box, Reference.mac(Check.sample(32, 5), Check.sample(3, 1)));
    }

    private static void armedAgain() {
        byte[] secret = Check.sample(32, 6);
        SealBox box = boxWith(Check.sample(32, 7));
        box.arm(1, 2);
        box.turn(1);
        Check.keep(box, 2, secret);
        box.arm(1, 2);
        Check.due("the phase of a guard armed again", 0, () -> box.look(11));
        dueGuard("a guard armed again", box, 1, secret, secret);
    }

    /** Guard 0 is armed and turned; slot 2 has a secret, slot 0 a byte less, slot 1 a byte more, slot 3 nothing. */
    private static SealBox boxForRefusals() {
        SealBox box = boxWith(Check.sample(32, 8));
        Check.keep(box, 0, Check.sample(31, 1));
        Check.keep(box, 1, Check.sample(33, 1));
        box.arm(0, 2);
        box.turn(0);
        box.digest();
        box.feed(3, 3);
        return box;
    }

    private static void refusals() {
        Check.Maker maker = GuardTest::boxForRefusals;
        for (int wrong : Check.NO_SLOTS) {
            Check.badArgument("arm(0, " + wrong + ")", maker, b -> b.arm(0, wrong));
        }
        for (int wrong : Check.NO_GUARDS) {
            Check.badArgument("arm(" + wrong + ", 2)", maker, b -> b.arm(wrong, 2));
            Check.badArgument("arm(" + wrong + ", 0), the slot being too short", maker, b -> b.arm(wrong, 0));
            Check.badArgument("turn(" + wrong + ")", maker, b -> b.turn(wrong));
        }
        for (int slot : new int[] {0, 1, 3}) {
            Check.badState("arm(0, " + slot + ")", maker, b -> b.arm(0, slot));
            Check.badState("arm(1, " + slot + ")", maker, b -> b.arm(1, slot));
        }
        for (int guard = 1; guard <= 3; guard++) {
            int notArmed = guard;
            Check.badState("turn(" + guard + "), not armed", maker, b -> b.turn(notArmed));
        }
    }
}
