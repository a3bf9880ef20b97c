/**
 * States of a house in which calls are refused. Its crews 0 and 1 have six skaters, who play, 2 has
 * four, 3 has ten and 4 has five.
 */
enum State {
    EMPTY {
        @Override
        Jamhouse make() {
            return new Jamhouse();
        }
    },
    CREWS {
        @Override
        Jamhouse make() {
            Jamhouse house = new Jamhouse();
            int[] sizes = {6, 6, 4, 10, 5};
            for (int crew = 0; crew < sizes.length; crew++) {
                house.crew();
                for (int i = 0; i < sizes[crew]; i++) {
                    house.skater(crew, 9, 5);
                }
            }
            return house;
        }
    },
    EIGHT_CREWS {
        @Override
        Jamhouse make() {
            Jamhouse house = CREWS.make();
            for (int i = 5; i < 8; i++) {
                house.crew();
            }
            return house;
        }
    },
    /** Behind a jam with a foul and five points, as lines are changed and a time-out was taken. */
    BETWEEN {
        @Override
        Jamhouse make() {
            Jamhouse house = CREWS.make();
            house.game(0, 1);
            house.start();
            house.penalty(1, 2, 'a');
            house.order(0, 0, 9, 0);
            house.go(120);
            house.end();
            house.line(0, 0, 5);
            house.line(1, 3, 4);
            house.timeout(1);
            return house;
        }
    },
    NO_TIMEOUT_LEFT {
        @Override
        Jamhouse make() {
            Jamhouse house = BETWEEN.make();
            for (int i = 0; i < 3; i++) {
                house.timeout(0);
            }
            return house;
        }
    },
    /**
     * Each event can be: team 0 leads, its jammer beside its pivot, and its slot 4 is out, its slot 2
     * down; of team 1 the slots 2 to 4 sit, the slot 0 waits, the slot 1 is up. The event 0 is void.
     */
    JAM {
        @Override
        Jamhouse make() {
            return mixed(BETWEEN.make());
        }
    },
    /** As JAM, but that team 0 has neither a time-out nor a review left, team 1 no review. */
    JAM_WITH_NONE_LEFT {
        @Override
        Jamhouse make() {
            Jamhouse house = mixed(NO_TIMEOUT_LEFT.make());
            house.review(0, 1, false);
            house.review(1, 1, false);
            return house;
        }
    },
    NO_REVIEW_LEFT {
        @Override
        Jamhouse make() {
            Jamhouse house = JAM_WITH_NONE_LEFT.make();
            house.go(120);
            house.end();
            return house;
        }
    },
    FULL_JAM {
        @Override
        Jamhouse make() {
            Jamhouse house = JAM.make();
            for (int i = house.events(); i < 200; i++) {
                house.order(0, 1, 0, 0);
            }
            return house;
        }
    },
    /** The slots 0 and 1 of team 0 and the slot 1 of team 1 stand where they stood. */
    JAM_THAT_IS_OVER {
        @Override
        Jamhouse make() {
            Jamhouse house = JAM.make();
            house.go(120);
            return house;
        }
    },
    FIRST_JAM {
        @Override
        Jamhouse make() {
            Jamhouse house = CREWS.make();
            house.game(0, 1);
            house.start();
            house.order(1, 0, 9, 0);
            house.go(5);
            return house;
        }
    },
    /** By fouls, which split nothing. */
    JAM_WITHOUT_A_PACK {
        @Override
        Jamhouse make() {
            Jamhouse house = FIRST_JAM.make();
            for (int slot = 1; slot < 5; slot++) {
                house.penalty(0, slot, 'a');
            }
            return house;
        }
    },
    JAM_WITH_A_SPLIT {
        @Override
        Jamhouse make() {
            Jamhouse house = BETWEEN.make();
            house.start();
            for (int slot = 1; slot < 5; slot++) {
                house.order(1, slot, 9, 0);
            }
            house.go(3);
            return house;
        }
    },
    JAM_WITH_A_LOST_LEAD {
        @Override
        Jamhouse make() {
            Jamhouse house = JAM.make();
            house.passStar(0);
            return house;
        }
    },
    /** Three for team 0, two for team 1. */
    JAM_WITH_SIGNALS {
        @Override
        Jamhouse make() {
            Jamhouse house = JAM.make();
            for (int referee = 0; referee < 3; referee++) {
                house.signal(referee, 0, 3 - referee);
            }
            house.signal(2, 1, 8);
            return house;
        }
    },
    SEVEN_FOULS {
        @Override
        Jamhouse make() {
            Jamhouse house = sixFouls();
            house.start();
            house.penalty(0, 4, 'a');
            house.go(120);
            house.end();
            return house;
        }
    },
    JAM_WITH_SEVEN_FOULS {
        @Override
        Jamhouse make() {
            Jamhouse house = sixFouls();
            house.start();
            house.penalty(0, 4, 'a');
            return house;
        }
    },
    /** A jam that began, with its line-up, beyond 1800 seconds of the first period. */
    LAST_JAM_OF_THE_FIRST_PERIOD {
        @Override
        Jamhouse make() {
            Jamhouse house = CREWS.make();
            house.game(0, 1);
            for (int i = 0; i < 11; i++) {
                Houses.idleJam(house);
            }
            house.start();
            house.order(0, 0, 9, 0);
            house.go(119);
            house.callOff(0);
            house.end();
            house.start();
            house.go(1);
            return house;
        }
    },
    /** With five points of team 0. */
    FIRST_PERIOD_OVER {
        @Override
        Jamhouse make() {
            Jamhouse house = CREWS.make();
            house.game(0, 1);
            Houses.lappingJam(house, 0);
            Houses.playPeriod(house);
            return house;
        }
    },
    /** With five points of team 0. */
    SECOND_PERIOD {
        @Override
        Jamhouse make() {
            Jamhouse house = FIRST_PERIOD_OVER.make();
            house.nextPeriod();
            Houses.idleJam(house);
            return house;
        }
    },
    /** With five points of team 0. */
    SECOND_PERIOD_OVER {
        @Override
        Jamhouse make() {
            Jamhouse house = SECOND_PERIOD.make();
            Houses.playPeriod(house);
            return house;
        }
    },
    LIKE_SCORES {
        @Override
        Jamhouse make() {
            Jamhouse house = CREWS.make();
            house.game(0, 1);
            Houses.playPeriod(house);
            house.nextPeriod();
            Houses.playPeriod(house);
            return house;
        }
    },
    OVERTIME {
        @Override
        Jamhouse make() {
            Jamhouse house = LIKE_SCORES.make();
            house.start();
            house.order(0, 0, 9, 0);
            house.go(3);
            return house;
        }
    },
    /** Sixty jams, with like scores behind the second period. */
    SIXTY_JAMS {
        @Override
        Jamhouse make() {
            Jamhouse house = LIKE_SCORES.make();
            while (house.jams() < 60) {
                Houses.idleJam(house);
            }
            return house;
        }
    },
    /** Sixty jams, the last one, of overtime, having brought a winner. */
    SIXTY_JAMS_AND_A_WINNER {
        @Override
        Jamhouse make() {
            Jamhouse house = LIKE_SCORES.make();
            while (house.jams() < 59) {
                Houses.idleJam(house);
            }
            Houses.lappingJam(house, 1);
            return house;
        }
    },
    FINISHED {
        @Override
        Jamhouse make() {
            Jamhouse house = SECOND_PERIOD_OVER.make();
            house.finish();
            return house;
        }
    };

    abstract Jamhouse make();

    private static Jamhouse mixed(Jamhouse house) {
        house.start();
        house.order(0, 1, 3, 0);
        house.correct(0);
        house.order(0, 4, 0, 1);
        house.order(0, 0, 9, 0);
        house.go(2);
        house.order(0, 0, 2, 0);
        house.go(1);
        house.order(0, 0, 0, 0);
        house.order(1, 1, 6, 0);
        house.block(1, 1, 2, 'h', 'f');
        house.order(1, 1, 0, 0);
        for (int slot : new int[] {2, 3, 4, 0}) {
            house.penalty(1, slot, 'a');
        }
        house.signal(1, 0, 7);
        return house;
    }

    /** Six of the skater in the slot 4 of team 0, by three jams with two each. */
    private static Jamhouse sixFouls() {
        Jamhouse house = CREWS.make();
        house.game(0, 1);
        for (int i = 0; i < 3; i++) {
            house.start();
            house.penalty(0, 4, 'a');
            house.go(30);
            house.penalty(0, 4, 'b');
            house.go(120);
            house.end();
        }
        return house;
    }
}
