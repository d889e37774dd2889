/** What a works answers from here to its end, each tale in fewer than 350 calls. */
enum Tale {

    BODIES {
        void tell(CubefoldWorks works, StringBuilder told) {
            add(told, works.checksum(), works.kinds(), Check.outcome(works::meanSkin), works.isSound());
            for (int number = 0; number < 8; number++) {
                int body = number;
                add(told, Check.outcome(() -> works.cubes(body)), Check.outcome(() -> works.skin(body)));
                add(told, Check.outcome(() -> works.areAlike(body, 0)));
                add(told, Check.outcome(() -> works.areMirrored(0, body)));
            }
            for (int many = 0; many < 9; many++) {
                add(told, Check.outcome(() -> works.addBody(21)));
            }
            add(told, works.checksum());
        }
    },

    SHEETS {
        void tell(CubefoldWorks works, StringBuilder told) {
            add(told, works.checksum());
            for (int number = 0; number < 8; number++) {
                int sheet = number;
                add(told, Check.outcome(() -> works.squares(sheet)), Check.outcome(() -> works.edge(sheet)));
                add(told, Check.outcome(() -> works.ways(sheet)), Check.outcome(() -> works.folds(sheet)));
            }
            for (int many = 0; many < 9; many++) {
                add(told, Check.outcome(works::addSheet));
            }
            add(told, works.checksum());
        }
    },

    BOARDS {
        void tell(CubefoldWorks works, StringBuilder told) {
            add(told, Check.outcome(works::usedShare));
            for (int number = 0; number < 4; number++) {
                int board = number;
                add(told, Check.outcome(() -> works.free(board)));
                for (int square = 0; square < 64; square++) {
                    int place = square;
                    add(told, Check.outcome(() -> works.isFree(board, place)));
                }
            }
            for (int many = 0; many < 5; many++) {
                add(told, Check.outcome(works::addBoard));
            }
            add(told, Check.outcome(works::usedShare));
        }
    },

    DIE {
        void tell(CubefoldWorks works, StringBuilder told) {
            add(told, works.below(), works.onTop());
            for (int square = 0; square < 64; square++) {
                add(told, works.rolls(square, 1), works.rolls(square, 2), works.rolls(square, 3));
            }
            for (char way : "nneesswwsewn".toCharArray()) {
                add(told, Check.outcome(() -> works.roll(way)));
            }
            add(told, works.put(27), works.below(), works.put(0));
        }
    },

    ORDERS {
        void tell(CubefoldWorks works, StringBuilder told) {
            add(told, works.earned());
            for (int number = 0; number < 8; number++) {
                int sheet = number;
                add(told, Check.outcome(() -> works.order(sheet, 50)), Check.outcome(() -> works.cut(sheet)));
            }
            add(told, works.sharpen(), works.sharpen());
            for (int many = 0; many < 22; many++) {
                add(told, Check.outcome(works::make), works.earned());
            }
        }
    },

    PATENTS {
        void tell(CubefoldWorks works, StringBuilder told) {
            for (int number = 0; number < 8; number++) {
                int sheet = number;
                add(told, Check.outcome(() -> works.patentOf(sheet)), Check.outcome(() -> works.patent(sheet)));
            }
            add(told, Check.outcome(works::addSheet));
            for (int square = 63; square >= 0; square--) {
                works.set(0, square, false);
            }
            for (int square = 0; square < 64; square++) {
                works.set(0, square, true);
                add(told, Check.outcome(() -> works.patentOf(0)), Check.outcome(() -> works.patent(0)));
            }
        }
    };

    abstract void tell(CubefoldWorks works, StringBuilder told);

    String of(CubefoldWorks works) {
        StringBuilder told = new StringBuilder();
        tell(works, told);
        return told.toString();
    }

    private static void add(StringBuilder told, Object... answers) {
        for (Object answer : answers) {
            told.append(answer instanceof Class ? ((Class<?>) answer).getSimpleName() : answer).append(' ');
        }
    }
}
