/**
 * What an object answers later on, part by part: by asking it, and by going on with it, so that
 * what is held inside shows as well. Each way of asking wants an object of its own, since it
 * changes that object and since one object is used for 512 calls at most.
 */
enum Answers {
    KEPT_BREAK(Part.TEXT) {
        @Override
        void ask(PageForms forms, StringBuilder told) {
            told.append(forms.rest());
            for (int k = -1; k <= 101; k++) {
                told.append(' ').append(forms.line(k));
            }
        }
    },
    BREAKS_OF_ALL_WIDTHS(Part.TEXT) {
        @Override
        void ask(PageForms forms, StringBuilder told) {
            for (int width = 1; width <= 100; width++) {
                told.append(forms.broken(width)).append(' ').append(forms.rest()).append(' ');
            }
        }
    },
    TEXT_THAT_GOES_ON(Part.TEXT) {
        @Override
        void ask(PageForms forms, StringBuilder told) {
            int taken = 0;
            while (taken <= 200 && forms.unit(taken % 7 == 3 ? 32 : 97)) {
                taken++;
            }
            told.append(taken).append(' ').append(forms.broken(100));
            told.append(' ').append(forms.rest()).append(' ').append(forms.line(1));
        }
    },
    PLACES(Part.BOXES) {
        @Override
        void ask(PageForms forms, StringBuilder told) {
            for (int height = 1; height <= 1000; height += 27) {
                told.append(forms.pages(height, height % 11)).append(' ');
            }
            for (int box = -1; box <= 60; box++) {
                told.append(forms.put(box, 90, 3, 0)).append(' ');
                told.append(forms.put(box, 90, 3, 1)).append(' ');
            }
        }
    },
    BOXES_THAT_COME_BEHIND(Part.BOXES) {
        @Override
        void ask(PageForms forms, StringBuilder told) {
            int number = 0;
            for (int i = 0; i <= 60 && number >= 0; i++) {
                number = forms.box(1 + i * 37 % 100);
                told.append(number).append(' ');
            }
            told.append(forms.pages(90, 3)).append(' ').append(forms.pages(200, 0));
        }
    },
    FIRST_LINES(Part.GRID) {
        @Override
        void ask(PageForms forms, StringBuilder told) {
            tellLines(forms, told, -1, 57);
        }
    },
    LAST_LINES(Part.GRID) {
        @Override
        void ask(PageForms forms, StringBuilder told) {
            tellLines(forms, told, 58, 117);
        }
    },
    CELLS(Part.GRID) {
        @Override
        void ask(PageForms forms, StringBuilder told) {
            for (int cell = -1; cell <= 64; cell++) {
                told.append(forms.cage(cell, 1)).append(' ').append(forms.lines()).append(' ');
            }
        }
    },
    SQUARES(Part.CODE) {
        @Override
        void ask(PageForms forms, StringBuilder told) {
            tellSquares(forms, told);
        }
    },
    SQUARES_BEHIND_READ(Part.CODE) {
        @Override
        void ask(PageForms forms, StringBuilder told) {
            told.append(forms.read()).append(' ');
            tellSquares(forms, told);
        }
    },
    CODE_THAT_GOES_ON(Part.CODE) {
        @Override
        void ask(PageForms forms, StringBuilder told) {
            for (int i = 0; i <= 12; i++) {
                told.append(forms.code(i * 41 % 256)).append(' ');
            }
            tellSquares(forms, told);
        }
    };

    /** The four parts of the document that have nothing to do with each other. */
    enum Part { TEXT, BOXES, GRID, CODE }

    final Part part;

    Answers(Part part) {
        this.part = part;
    }

    abstract void ask(PageForms forms, StringBuilder told);

    String of(PageForms forms) {
        StringBuilder told = new StringBuilder();
        ask(forms, told);
        return told.toString();
    }

    private static void tellLines(PageForms forms, StringBuilder told, int first, int last) {
        told.append(forms.lines());
        for (int k = first; k <= last; k++) {
            for (int what = 0; what < 5; what++) {
                told.append(' ').append(forms.drawn(k, what));
            }
        }
    }

    private static void tellSquares(PageForms forms, StringBuilder told) {
        told.append(forms.rows());
        for (int y = 0; y <= 13; y++) {
            told.append(' ').append(forms.byteAt(y)).append(' ');
            for (int x = 0; x <= 9; x++) {
                told.append(forms.dark(x, y) ? '#' : '.');
            }
        }
    }
}
