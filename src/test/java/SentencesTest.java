import java.io.IOException;

/** Every sentence of the document that names a boundary, with a test of its own that quotes it. */
public final class SentencesTest {
    private SentencesTest() {
    }

    public static void main(String[] args) throws IOException {
        Sentences all = new Sentences();
        FieldSentences.tell(all);
        TurningSentences.tell(all);
        UndoSentences.tell(all);
        NeedleSentences.tell(all);
        BarSentences.tell(all);
        TextSentences.tell(all);
        LookSentences.tell(all);
        WhatWouldBeSentences.tell(all);
        DigestSentences.tell(all);
        all.end("SentencesTest");
    }
}
