/** Promises 23 to 27: sign, draftByte, send, drop, check. */
public final class SendTest {
    private static final int BAD = PurseHouse.BAD;
    private static final int NONE = PurseHouse.NONE;
    private static final int FULL = PurseHouse.FULL;
    /** The bytes of a draft with one input and two outputs, without and with its WITNESS. */
    private static final int BODY = 2 + 33 + 48;
    private static final int WHOLE = BODY + 97;

    public static void main(String[] args) {
        Due due = new Due("send");
        signWrongly(due);
        signMany(due);
        draftBytes(due);
        draftByteWrongly(due);
        sendWrongly(due);
        sendPlaces(due);
        sendNotSigned(due);
        sendTwelve(due);
        sendAgain(due);
        sendUnreadable(due);
        sendValues(due);
        refusedSendIsNotSent(due);
        dropWrongly(due);
        dropFrees(due);
        whatWasSentGoesOn(due);
        checkWrongly(due);
        checkRight(due);
        due.end();
    }

    private static final int[] NO_DRAFTS = {-1, 1, 15, 16, Integer.MIN_VALUE, Integer.MAX_VALUE};

    /** Promise 23: "BAD: none such; NONE: it is not just made". */
    private static void signWrongly(Due due) {
        Pair p = Pair.rich(due, 4);
        due.is("none such", p.sign(0), BAD);
        p.payOut(3000, 0);
        for (int d : NO_DRAFTS) {
            due.is("draft " + d, p.sign(d), BAD);
        }
        due.is("WITNESSES", p.sign(0), 3);
        due.is("it is SIGNED", p.sign(0), NONE);
        due.is("SIGNED still", p.draft(0, 4), 2);
        p.send(0, 0, 0);
        due.is("it was sent", p.sign(0), NONE);
        due.is("sent still", p.draft(0, 4), 3);
        p.drop(0);
        due.is("it is dropped", p.sign(0), NONE);
        due.is("dropped still", p.draft(0, 4), 0);
        p.payOut(1000, 0);
        p.drop(1);
        due.is("dropped before it was SIGNED", p.sign(1), NONE);
    }

    /** "A DRAFT that was made is SIGNED: how many WITNESSES", of 1 to 4 inputs; each byte of them. */
    private static void signMany(Due due) {
        Pair p = Pair.rich(due, 4);
        for (int i = 0; i < 12; i++) {
            int inputs = 1 + i % 4;
            int d = p.payOut(1000 * inputs - 100 - 7 * i, 0);
            due.is("WITNESSES", p.sign(d), inputs);
            due.is("RIGHT", p.check(d), 1);
            int body = 2 + 33 * inputs + 48;
            for (int at = 0; at <= body + 97 * inputs; at += i < 4 ? 1 : 7) {
                p.draftByte(d, at);
            }
            p.drop(d);
        }
    }

    /** Promise 24: "Byte i of a DRAFT's payment, WITNESSES, if it is SIGNED". */
    private static void draftBytes(Due due) {
        Pair p = Pair.rich(due, 2);
        p.payOut(1500, 1);
        int body = 2 + 66 + 48;
        due.is("inputs", p.draftByte(0, 0), 2);
        due.is("outputs", p.draftByte(0, 67), 2);
        due.is("value", p.draftByte(0, 70) * 256 + p.draftByte(0, 71), 1500);
        due.is("the rest's value", p.draftByte(0, 94) * 256 + p.draftByte(0, 95), p.draft(0, 3));
        due.is("address", p.draftByte(0, 75), 1500 & 255);
        p.lookAtDrafts();
        p.sign(0);
        due.is("the first WITNESS", p.draftByte(0, body), p.key(0, 0, 0));
        due.is("the second WITNESS", p.draftByte(0, body + 97 + 32), p.key(0, 1, 32));
        p.lookAtDrafts();
        p.send(0, 0, 0);
        p.lookAtDrafts();
        p.send(0, 3, 255);
        p.lookAtDrafts();
    }

    /** "BAD: none such, it is dropped": the byte behind the last one moves when it is SIGNED. */
    private static void draftByteWrongly(Due due) {
        Pair p = Pair.rich(due, 2);
        due.is("no draft", p.draftByte(0, 0), BAD);
        p.payOut(500, 0);
        for (int d : NO_DRAFTS) {
            due.is("draft " + d, p.draftByte(d, 0), BAD);
        }
        for (int round = 1; round <= 3; round++) {
            int end = round == 1 ? BODY : WHOLE;
            due.yes("the first byte", p.draftByte(0, 0) == 1);
            due.yes("the last byte", p.draftByte(0, end - 1) >= 0);
            for (int i : new int[] {-1, end, end + 1, Integer.MIN_VALUE, Integer.MAX_VALUE}) {
                due.is("byte " + i, p.draftByte(0, i), BAD);
            }
            if (round == 1) {
                p.sign(0);
            } else {
                p.send(0, 0, 0);
            }
        }
        p.drop(0);
        due.is("it is dropped", p.draftByte(0, 0), BAD);
        due.is("it is dropped", p.draftByte(0, WHOLE - 1), BAD);
    }

    /** Promise 25: "BAD: none such, mask not 0 .. 255". */
    private static void sendWrongly(Due due) {
        Pair p = Pair.rich(due, 1);
        due.is("none such", p.send(0, 0, 0), BAD);
        p.payOut(500, 0);
        p.sign(0);
        for (int d : NO_DRAFTS) {
            due.is("draft " + d, p.send(d, 0, 0), BAD);
        }
        for (int mask : new int[] {-1, 256, Integer.MIN_VALUE, Integer.MAX_VALUE}) {
            due.is("mask " + mask, p.send(0, 0, mask), BAD);
        }
        due.is("SIGNED still", p.draft(0, 4), 2);
        due.is("nothing waits", p.waiting(), 0);
        due.is("mask 255 is one", p.send(0, WHOLE - 1, 255), 1);
        due.is("mask 1 is one", p.send(0, WHOLE - 1, 1), 1);
        due.is("two wait", p.waiting(), 2);
    }

    /** "with a mask a place that draftByte() does not have"; without one any place will do. */
    private static void sendPlaces(Due due) {
        Pair p = Pair.rich(due, 1);
        p.payOut(500, 0);
        p.sign(0);
        for (int place : new int[] {-1, WHOLE, Integer.MIN_VALUE, Integer.MAX_VALUE}) {
            due.is("place " + place, p.send(0, place, 1), BAD);
            due.is("SIGNED still", p.draft(0, 4), 2);
        }
        due.is("the last place", p.send(0, WHOLE - 1, 1), 1);
        due.is("the first place", p.send(0, 0, 2), 0);
        for (int place : new int[] {-1, WHOLE, Integer.MIN_VALUE, Integer.MAX_VALUE}) {
            due.is("place " + place, p.send(0, place, 1), BAD);
            due.is("place " + place + " without a mask", p.send(0, place, 0), 1);
        }
        due.is("waiting", p.waiting(), 5);
        due.is("one with a wrong WITNESS, four the same", p.block(p.mine(1, 30), 5), 2);
        due.is("the others wait on", p.waiting(), 4);
    }

    /** "NONE: it is not SIGNED, and was not sent, or it is dropped"; "(a dropped one has none [no place])". */
    private static void sendNotSigned(Due due) {
        Pair p = Pair.rich(due, 1);
        p.payOut(500, 0);
        due.is("not SIGNED", p.send(0, 0, 0), NONE);
        due.is("a place that is there", p.send(0, BODY - 1, 1), NONE);
        due.is("a place that is not there yet", p.send(0, BODY, 1), BAD);
        due.is("place -1", p.send(0, -1, 1), BAD);
        due.is("a wrong mask", p.send(0, 0, 256), BAD);
        due.is("made still", p.draft(0, 4), 1);
        due.is("nothing waits", p.waiting(), 0);
        p.sign(0);
        p.drop(0);
        due.is("dropped", p.send(0, 0, 0), NONE);
        due.is("a dropped one has no place", p.send(0, 0, 1), BAD);
        due.is("dropped still", p.draft(0, 4), 0);
        due.is("nothing waits", p.waiting(), 0);
    }

    /** "FULL: 12 wait": behind BAD and NONE, and whatever comes, though it can't be read or its values are wrong. */
    private static void sendTwelve(Due due) {
        Pair p = Pair.rich(due, 2);
        p.payOut(500, 0);
        p.sign(0);
        p.payOut(500, 0);
        p.sign(1);
        for (int i = 0; i < 11; i++) {
            p.send(0, 0, 0);
        }
        due.is("11 wait", p.waiting(), 11);
        due.is("the 12th", p.send(0, 0, 0), 1);
        due.is("12 wait", p.send(0, 0, 0), FULL);
        due.is("12 wait", p.send(1, 0, 0), FULL);
        due.is("12 wait, it can't be read", p.send(1, 0, 2), FULL);
        due.is("12 wait, a value of 2^31 and more", p.send(1, 2 + 33, 128), FULL);
        due.is("it was not sent", p.draft(1, 4), 2);
        due.is("BAD", p.send(1, 0, 256), BAD);
        due.is("BAD", p.send(2, 0, 0), BAD);
        due.is("BAD", p.send(1, WHOLE, 1), BAD);
        p.drop(1);
        due.is("NONE", p.send(1, 0, 0), NONE);
        due.is("12 wait", p.waiting(), 12);
        p.forget();
        due.is("none waits, it can't be read", p.send(0, 0, 2), 0);
        due.is("none waits", p.send(0, 0, 0), 1);
    }

    /** "(It may be sent more than once.)": spoiled or not. */
    private static void sendAgain(Due due) {
        Pair p = Pair.rich(due, 1);
        p.payOut(500, 0);
        p.sign(0);
        due.is("spoiled", p.send(0, BODY + 40, 1), 1);
        due.is("sent", p.draft(0, 4), 3);
        due.is("as it is", p.send(0, 0, 0), 1);
        due.is("as it is", p.send(0, 0, 0), 1);
        due.is("waiting", p.waiting(), 3);
        int b = p.mine(1, 30);
        due.is("one is good", p.block(b, 5), 2);
        due.is("the others wait on", p.waiting(), 2);
        due.is("its own bytes are as they were", p.check(0), 1);
        p.lookAtDrafts();
    }

    /** "0: what comes can't be read as a payment with its WITNESSES, and nothing more": "was sent (also with 0)". */
    private static void sendUnreadable(Due due) {
        for (int inputs = 1; inputs <= 4; inputs++) {
            Pair p = Pair.rich(due, 4);
            p.payOut(1000 * inputs - 500, 0);
            p.sign(0);
            due.is("inputs", p.draft(0, 0), inputs);
            for (int other = 0; other < 9; other++) {
                if (other != inputs) {
                    due.is(other + " inputs", p.send(0, 0, inputs ^ other), 0);
                }
                if (other != 2) {
                    due.is(other + " outputs", p.send(0, 1 + 33 * inputs, 2 ^ other), 0);
                }
            }
            for (int mask = 16; mask < 256; mask *= 2) {
                due.is("far more inputs", p.send(0, 0, mask), 0);
                due.is("far more outputs", p.send(0, 1 + 33 * inputs, mask), 0);
            }
            due.is("sent, though thrown away", p.draft(0, 4), 3);
            due.is("nothing waits", p.waiting(), 0);
            due.is("which output: any can be read", p.send(0, 33, 255), 1);
            due.is("one waits", p.waiting(), 1);
            p.mine(4, 30);
            due.is("it is not good", p.waiting(), 1);
        }
    }

    /** "or its values are others than told": these are 1 .. 1,000,000,000. */
    private static void sendValues(Due due) {
        Pair p = Pair.rich(due, 1);
        p.payOut(256, 0);
        p.sign(0);
        int at = 2 + 33;
        due.is("256 as 0", p.send(0, at + 2, 1), 0);
        due.is("sent, though thrown away", p.draft(0, 4), 3);
        due.is("256 as 257", p.send(0, at + 3, 1), 1);
        due.is("256 as 536,871,168", p.send(0, at, 32), 1);
        due.is("256 as 989,856,000", p.send(0, at, 0x3b), 1);
        due.is("256 as 1,006,633,216", p.send(0, at, 0x3c), 0);
        due.is("256 as 1,073,742,080", p.send(0, at, 64), 0);
        due.is("256 as 2^31 and more", p.send(0, at, 128), 0);
        due.is("256 as nearly 2^32", p.send(0, at, 255), 0);
        due.is("waiting", p.waiting(), 3);
        due.is("the rest of 744 as less", p.send(0, at + 24 + 2, 2), 1);
        due.is("the rest as 2^31 and more", p.send(0, at + 24, 128), 0);
        p.mine(1, 30);
        due.is("none is good", p.waiting(), 4);
        p.drop(0);
        p.payOut(1, 0);
        p.sign(1);
        due.is("1 as 0", p.send(1, at + 3, 1), 0);
        due.is("a value of 1", p.send(1, 0, 0), 1);
        p.mine(1, 31);
        due.is("it is good", p.payment(3, 1, 10), 1);
        due.is("the rest", p.payment(3, 1, 11), 999);
    }

    /** With BAD, NONE and FULL nothing comes to wait, and the draft is as it was. */
    private static void refusedSendIsNotSent(Due due) {
        Pair p = Pair.rich(due, 1);
        p.payOut(500, 0);
        p.send(0, 0, 0);
        due.is("made still", p.draft(0, 4), 1);
        due.is("it can be SIGNED still", p.sign(0), 1);
        p.send(0, WHOLE, 1);
        p.send(0, 0, -1);
        due.is("SIGNED still", p.draft(0, 4), 2);
        due.is("nothing waits", p.waiting(), 0);
    }

    /** Promise 26: "BAD: none such; NONE: it is". */
    private static void dropWrongly(Due due) {
        Pair p = Pair.rich(due, 2);
        due.is("none such", p.drop(0), BAD);
        p.payOut(1000, 0);
        for (int d : NO_DRAFTS) {
            due.is("draft " + d, p.drop(d), BAD);
        }
        due.is("LOCKED still", p.sum(1), 1000);
        due.is("dropped", p.drop(0), 1);
        due.is("it is", p.drop(0), NONE);
        due.is("no draft 1", p.drop(1), BAD);
    }

    /** "(what it named is LOCKED no more by it ..)": but by another one it may be. */
    private static void dropFrees(Due due) {
        Pair p = Pair.rich(due, 2);
        for (int d = 0; d < 3; d++) {
            due.is("the DRAFT's number", p.payOut(1000, 0), d);
            due.is("LOCKED", p.coin(0, 5), 1);
            if (d > 0) {
                p.sign(d);
            }
            if (d > 1) {
                p.send(d, 0, 0);
            }
            due.is("dropped", p.drop(d), 1);
            due.is("LOCKED no more", p.coin(0, 5), 0);
            due.is("not LOCKED", p.sum(1), 2000);
        }
        int d = p.payOut(1000, 0);
        due.is("LOCKED by another", p.coin(0, 5), 1);
        due.is("dropped long ago", p.drop(0), NONE);
        due.is("LOCKED still", p.coin(0, 5), 1);
        due.is("its state", p.draft(d, 4), 1);
    }

    /** "(.. what was sent goes on)". */
    private static void whatWasSentGoesOn(Due due) {
        Pair p = Pair.rich(due, 2);
        p.payOut(1000, 0);
        p.sign(0);
        p.send(0, 0, 0);
        due.is("dropped, though sent", p.drop(0), 1);
        due.is("what was sent goes on", p.waiting(), 1);
        p.payOut(1000, 0);
        due.is("another one locks the coin", p.coin(0, 5), 1);
        int b = p.mine(2, 30);
        due.is("the dropped one's payment", p.block(b, 5), 2);
        p.giveAll(b);
        due.is("the coin went", p.coin(-1, 0), 1);
        due.is("it is the other one", p.coin(0, 2), 1);
        p.look();
    }

    /** Promise 27: "BAD: none such, not SIGNED or sent". */
    private static void checkWrongly(Due due) {
        Pair p = Pair.rich(due, 2);
        due.is("none such", p.check(0), BAD);
        p.payOut(500, 0);
        for (int d : NO_DRAFTS) {
            due.is("draft " + d, p.check(d), BAD);
        }
        due.is("made alone", p.check(0), BAD);
        p.sign(0);
        due.is("SIGNED", p.check(0), 1);
        p.send(0, 0, 0);
        due.is("sent", p.check(0), 1);
        p.drop(0);
        due.is("dropped", p.check(0), BAD);
        p.payOut(500, 0);
        p.drop(1);
        due.is("dropped before it was SIGNED", p.check(1), BAD);
    }

    /** "Whether all WITNESSES .. are RIGHT for the coins that it names": whatever was sent, and where the coins are. */
    private static void checkRight(Due due) {
        Pair p = Pair.rich(due, 4);
        p.payOut(3500, 0);
        p.sign(0);
        due.is("RIGHT", p.check(0), 1);
        p.send(0, 200, 3);
        due.is("RIGHT, whatever was sent", p.check(0), 1);
        due.is("the makers have a wrong one", p.block(p.mine(4, 30), 5), 1);
        p.forget();
        p.send(0, 0, 0);
        int b = p.mine(4, 31);
        p.giveAll(b);
        p.giveAll(p.mine(b, 30));
        due.is("the coins went", p.coin(-1, 0), 1);
        due.is("RIGHT still", p.check(0), 1);
    }
}
