/** Objects in states that stand at an edge; each is made by fewer than 80 calls. */
enum States {
    /** Nothing has happened yet. */
    NEW {
        void play(CallKeepers x) {
        }
    },
    /** Something of each kind is there: 3 KEPT, one that waits in FAIR, one LEFT, 2 WAITING, a KEEPER DOWN. */
    LIVELY {
        void play(CallKeepers x) {
            x.set(2, 1);
            for (int number = 1; number <= 5; number++) {
                x.piece(number, 0, true, 0, 10 * number);
            }
            x.set(0, 4);
            x.piece(6, 0, true, 0, 1000);
            x.piece(8, 0, true, 0, 9);
            x.keeper(2, false);
            x.tick(2);
            x.piece(0, 3, false, 4, 7);
            x.piece(7, 2, true, 1, 70);
            x.tick(1);
        }
    },
    /** 24 WAIT, and the next TICK decides them. */
    FULL_HOUSE {
        void play(CallKeepers x) {
            for (int number = 0; number < 24; number++) {
                x.piece(number, 1, false, number % 5, 1 + number);
            }
            x.tick(4);
        }
    },
    /** 20 are KEPT, and pieces that come for them are still LATER ones. */
    FULL_ROW {
        void play(CallKeepers x) {
            x.set(0, 1);
            for (int number = 0; number < 20; number++) {
                x.piece(number, 0, true, number % 5, 1 + number);
            }
            x.tick(3);
        }
    },
    /** There is no HOME. */
    ALL_DOWN {
        void play(CallKeepers x) {
            LIVELY.play(x);
            for (int keeper = 0; keeper <= 3; keeper++) {
                x.keeper(keeper, false);
            }
        }
    },
    /** The next TICK forgets, the next of SHAPE 0 is the SHARE-th, and TORN ones are not asked for. */
    BEFORE_ALL_TURNS {
        void play(CallKeepers x) {
            x.set(0, 9);
            x.set(2, 0);
            x.set(3, 0);
            for (int number = 0; number < 8; number++) {
                x.piece(number, 0, true, 0, 1);
            }
            x.tick(49);
        }
    };

    abstract void play(CallKeepers x);

    CallKeepers made() {
        CallKeepers x = new CallKeepers();
        play(x);
        return x;
    }
}
