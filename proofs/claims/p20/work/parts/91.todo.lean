theorem law_ok : LawOK := sorry
