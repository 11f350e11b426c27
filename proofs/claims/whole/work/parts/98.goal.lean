theorem jz_exists : ∃ Rel, jz_Good Rel := sorry
