theorem g_things_things (m : S6) (v : Int32) : S6_things (S6_set_things m v) = v := rfl
theorem g_things_noun (m : S6) (v : Nat → Int32) : S6_things (S6_set_noun m v) = S6_things m := rfl
theorem g_things_adjectives (m : S6) (v : Nat → Int32) : S6_things (S6_set_adjectives m v) = S6_things m := rfl
theorem g_things_box (m : S6) (v : Nat → Int32) : S6_things (S6_set_box m v) = S6_things m := rfl
theorem g_things_open (m : S6) (v : Nat → Int32) : S6_things (S6_set_open m v) = S6_things m := rfl
theorem g_things_place (m : S6) (v : Nat → Int32) : S6_things (S6_set_place m v) = S6_things m := rfl
theorem g_things_count (m : S6) (v : Int32) : S6_things (S6_set_count m v) = S6_things m := rfl
theorem g_things_words (m : S6) (v : Nat → Int32) : S6_things (S6_set_words m v) = S6_things m := rfl
theorem g_things_outcome (m : S6) (v : Int32) : S6_things (S6_set_outcome m v) = S6_things m := rfl
theorem g_things_wrongAt (m : S6) (v : Int32) : S6_things (S6_set_wrongAt m v) = S6_things m := rfl
theorem g_things_verb (m : S6) (v : Int32) : S6_things (S6_set_verb m v) = S6_things m := rfl
theorem g_things_meant (m : S6) (v : Int32) : S6_things (S6_set_meant m v) = S6_things m := rfl
theorem g_things_done (m : S6) (v : Int32) : S6_things (S6_set_done m v) = S6_things m := rfl
theorem g_things_into (m : S6) (v : Int32) : S6_things (S6_set_into m v) = S6_things m := rfl
theorem g_things_it (m : S6) (v : Int32) : S6_things (S6_set_it m v) = S6_things m := rfl
theorem g_things_questions (m : S6) (v : Int32) : S6_things (S6_set_questions m v) = S6_things m := rfl
theorem g_things_length (m : S6) (v : Int32) : S6_things (S6_set_length m v) = S6_things m := rfl
theorem g_things_order (m : S6) (v : Nat → Int32) : S6_things (S6_set_order m v) = S6_things m := rfl
theorem g_things_answer (m : S6) (v : Nat → Int32) : S6_things (S6_set_answer m v) = S6_things m := rfl
theorem g_things_asked (m : S6) (v : Int32) : S6_things (S6_set_asked m v) = S6_things m := rfl
theorem g_things_askedAt (m : S6) (v : Int32) : S6_things (S6_set_askedAt m v) = S6_things m := rfl
theorem g_things_at (m : S6) (v : Int32) : S6_things (S6_set_at m v) = S6_things m := rfl
theorem g_things_failedAt (m : S6) (v : Int32) : S6_things (S6_set_failedAt m v) = S6_things m := rfl
theorem g_things_choice (m : S6) (v : Int32) : S6_things (S6_set_choice m v) = S6_things m := rfl
theorem g_things_thrown (m : S6) (v : Int32) : S6_things (S6_set_thrown m v) = S6_things m := rfl
theorem g_noun_things (m : S6) (v : Int32) : S6_noun (S6_set_things m v) = S6_noun m := rfl
theorem g_noun_noun (m : S6) (v : Nat → Int32) : S6_noun (S6_set_noun m v) = v := rfl
theorem g_noun_adjectives (m : S6) (v : Nat → Int32) : S6_noun (S6_set_adjectives m v) = S6_noun m := rfl
theorem g_noun_box (m : S6) (v : Nat → Int32) : S6_noun (S6_set_box m v) = S6_noun m := rfl
theorem g_noun_open (m : S6) (v : Nat → Int32) : S6_noun (S6_set_open m v) = S6_noun m := rfl
theorem g_noun_place (m : S6) (v : Nat → Int32) : S6_noun (S6_set_place m v) = S6_noun m := rfl
theorem g_noun_count (m : S6) (v : Int32) : S6_noun (S6_set_count m v) = S6_noun m := rfl
theorem g_noun_words (m : S6) (v : Nat → Int32) : S6_noun (S6_set_words m v) = S6_noun m := rfl
theorem g_noun_outcome (m : S6) (v : Int32) : S6_noun (S6_set_outcome m v) = S6_noun m := rfl
theorem g_noun_wrongAt (m : S6) (v : Int32) : S6_noun (S6_set_wrongAt m v) = S6_noun m := rfl
theorem g_noun_verb (m : S6) (v : Int32) : S6_noun (S6_set_verb m v) = S6_noun m := rfl
theorem g_noun_meant (m : S6) (v : Int32) : S6_noun (S6_set_meant m v) = S6_noun m := rfl
theorem g_noun_done (m : S6) (v : Int32) : S6_noun (S6_set_done m v) = S6_noun m := rfl
theorem g_noun_into (m : S6) (v : Int32) : S6_noun (S6_set_into m v) = S6_noun m := rfl
theorem g_noun_it (m : S6) (v : Int32) : S6_noun (S6_set_it m v) = S6_noun m := rfl
theorem g_noun_questions (m : S6) (v : Int32) : S6_noun (S6_set_questions m v) = S6_noun m := rfl
theorem g_noun_length (m : S6) (v : Int32) : S6_noun (S6_set_length m v) = S6_noun m := rfl
theorem g_noun_order (m : S6) (v : Nat → Int32) : S6_noun (S6_set_order m v) = S6_noun m := rfl
theorem g_noun_answer (m : S6) (v : Nat → Int32) : S6_noun (S6_set_answer m v) = S6_noun m := rfl
theorem g_noun_asked (m : S6) (v : Int32) : S6_noun (S6_set_asked m v) = S6_noun m := rfl
theorem g_noun_askedAt (m : S6) (v : Int32) : S6_noun (S6_set_askedAt m v) = S6_noun m := rfl
theorem g_noun_at (m : S6) (v : Int32) : S6_noun (S6_set_at m v) = S6_noun m := rfl
theorem g_noun_failedAt (m : S6) (v : Int32) : S6_noun (S6_set_failedAt m v) = S6_noun m := rfl
theorem g_noun_choice (m : S6) (v : Int32) : S6_noun (S6_set_choice m v) = S6_noun m := rfl
theorem g_noun_thrown (m : S6) (v : Int32) : S6_noun (S6_set_thrown m v) = S6_noun m := rfl
theorem g_adjectives_things (m : S6) (v : Int32) : S6_adjectives (S6_set_things m v) = S6_adjectives m := rfl
theorem g_adjectives_noun (m : S6) (v : Nat → Int32) : S6_adjectives (S6_set_noun m v) = S6_adjectives m := rfl
theorem g_adjectives_adjectives (m : S6) (v : Nat → Int32) : S6_adjectives (S6_set_adjectives m v) = v := rfl
theorem g_adjectives_box (m : S6) (v : Nat → Int32) : S6_adjectives (S6_set_box m v) = S6_adjectives m := rfl
theorem g_adjectives_open (m : S6) (v : Nat → Int32) : S6_adjectives (S6_set_open m v) = S6_adjectives m := rfl
theorem g_adjectives_place (m : S6) (v : Nat → Int32) : S6_adjectives (S6_set_place m v) = S6_adjectives m := rfl
theorem g_adjectives_count (m : S6) (v : Int32) : S6_adjectives (S6_set_count m v) = S6_adjectives m := rfl
theorem g_adjectives_words (m : S6) (v : Nat → Int32) : S6_adjectives (S6_set_words m v) = S6_adjectives m := rfl
theorem g_adjectives_outcome (m : S6) (v : Int32) : S6_adjectives (S6_set_outcome m v) = S6_adjectives m := rfl
theorem g_adjectives_wrongAt (m : S6) (v : Int32) : S6_adjectives (S6_set_wrongAt m v) = S6_adjectives m := rfl
theorem g_adjectives_verb (m : S6) (v : Int32) : S6_adjectives (S6_set_verb m v) = S6_adjectives m := rfl
theorem g_adjectives_meant (m : S6) (v : Int32) : S6_adjectives (S6_set_meant m v) = S6_adjectives m := rfl
theorem g_adjectives_done (m : S6) (v : Int32) : S6_adjectives (S6_set_done m v) = S6_adjectives m := rfl
theorem g_adjectives_into (m : S6) (v : Int32) : S6_adjectives (S6_set_into m v) = S6_adjectives m := rfl
theorem g_adjectives_it (m : S6) (v : Int32) : S6_adjectives (S6_set_it m v) = S6_adjectives m := rfl
theorem g_adjectives_questions (m : S6) (v : Int32) : S6_adjectives (S6_set_questions m v) = S6_adjectives m := rfl
theorem g_adjectives_length (m : S6) (v : Int32) : S6_adjectives (S6_set_length m v) = S6_adjectives m := rfl
theorem g_adjectives_order (m : S6) (v : Nat → Int32) : S6_adjectives (S6_set_order m v) = S6_adjectives m := rfl
theorem g_adjectives_answer (m : S6) (v : Nat → Int32) : S6_adjectives (S6_set_answer m v) = S6_adjectives m := rfl
theorem g_adjectives_asked (m : S6) (v : Int32) : S6_adjectives (S6_set_asked m v) = S6_adjectives m := rfl
theorem g_adjectives_askedAt (m : S6) (v : Int32) : S6_adjectives (S6_set_askedAt m v) = S6_adjectives m := rfl
theorem g_adjectives_at (m : S6) (v : Int32) : S6_adjectives (S6_set_at m v) = S6_adjectives m := rfl
theorem g_adjectives_failedAt (m : S6) (v : Int32) : S6_adjectives (S6_set_failedAt m v) = S6_adjectives m := rfl
theorem g_adjectives_choice (m : S6) (v : Int32) : S6_adjectives (S6_set_choice m v) = S6_adjectives m := rfl
theorem g_adjectives_thrown (m : S6) (v : Int32) : S6_adjectives (S6_set_thrown m v) = S6_adjectives m := rfl
theorem g_box_things (m : S6) (v : Int32) : S6_box (S6_set_things m v) = S6_box m := rfl
theorem g_box_noun (m : S6) (v : Nat → Int32) : S6_box (S6_set_noun m v) = S6_box m := rfl
theorem g_box_adjectives (m : S6) (v : Nat → Int32) : S6_box (S6_set_adjectives m v) = S6_box m := rfl
theorem g_box_box (m : S6) (v : Nat → Int32) : S6_box (S6_set_box m v) = v := rfl
theorem g_box_open (m : S6) (v : Nat → Int32) : S6_box (S6_set_open m v) = S6_box m := rfl
theorem g_box_place (m : S6) (v : Nat → Int32) : S6_box (S6_set_place m v) = S6_box m := rfl
theorem g_box_count (m : S6) (v : Int32) : S6_box (S6_set_count m v) = S6_box m := rfl
theorem g_box_words (m : S6) (v : Nat → Int32) : S6_box (S6_set_words m v) = S6_box m := rfl
theorem g_box_outcome (m : S6) (v : Int32) : S6_box (S6_set_outcome m v) = S6_box m := rfl
theorem g_box_wrongAt (m : S6) (v : Int32) : S6_box (S6_set_wrongAt m v) = S6_box m := rfl
theorem g_box_verb (m : S6) (v : Int32) : S6_box (S6_set_verb m v) = S6_box m := rfl
theorem g_box_meant (m : S6) (v : Int32) : S6_box (S6_set_meant m v) = S6_box m := rfl
theorem g_box_done (m : S6) (v : Int32) : S6_box (S6_set_done m v) = S6_box m := rfl
theorem g_box_into (m : S6) (v : Int32) : S6_box (S6_set_into m v) = S6_box m := rfl
theorem g_box_it (m : S6) (v : Int32) : S6_box (S6_set_it m v) = S6_box m := rfl
theorem g_box_questions (m : S6) (v : Int32) : S6_box (S6_set_questions m v) = S6_box m := rfl
theorem g_box_length (m : S6) (v : Int32) : S6_box (S6_set_length m v) = S6_box m := rfl
theorem g_box_order (m : S6) (v : Nat → Int32) : S6_box (S6_set_order m v) = S6_box m := rfl
theorem g_box_answer (m : S6) (v : Nat → Int32) : S6_box (S6_set_answer m v) = S6_box m := rfl
theorem g_box_asked (m : S6) (v : Int32) : S6_box (S6_set_asked m v) = S6_box m := rfl
theorem g_box_askedAt (m : S6) (v : Int32) : S6_box (S6_set_askedAt m v) = S6_box m := rfl
theorem g_box_at (m : S6) (v : Int32) : S6_box (S6_set_at m v) = S6_box m := rfl
theorem g_box_failedAt (m : S6) (v : Int32) : S6_box (S6_set_failedAt m v) = S6_box m := rfl
theorem g_box_choice (m : S6) (v : Int32) : S6_box (S6_set_choice m v) = S6_box m := rfl
theorem g_box_thrown (m : S6) (v : Int32) : S6_box (S6_set_thrown m v) = S6_box m := rfl
theorem g_open_things (m : S6) (v : Int32) : S6_open (S6_set_things m v) = S6_open m := rfl
theorem g_open_noun (m : S6) (v : Nat → Int32) : S6_open (S6_set_noun m v) = S6_open m := rfl
theorem g_open_adjectives (m : S6) (v : Nat → Int32) : S6_open (S6_set_adjectives m v) = S6_open m := rfl
theorem g_open_box (m : S6) (v : Nat → Int32) : S6_open (S6_set_box m v) = S6_open m := rfl
theorem g_open_open (m : S6) (v : Nat → Int32) : S6_open (S6_set_open m v) = v := rfl
theorem g_open_place (m : S6) (v : Nat → Int32) : S6_open (S6_set_place m v) = S6_open m := rfl
theorem g_open_count (m : S6) (v : Int32) : S6_open (S6_set_count m v) = S6_open m := rfl
theorem g_open_words (m : S6) (v : Nat → Int32) : S6_open (S6_set_words m v) = S6_open m := rfl
theorem g_open_outcome (m : S6) (v : Int32) : S6_open (S6_set_outcome m v) = S6_open m := rfl
theorem g_open_wrongAt (m : S6) (v : Int32) : S6_open (S6_set_wrongAt m v) = S6_open m := rfl
theorem g_open_verb (m : S6) (v : Int32) : S6_open (S6_set_verb m v) = S6_open m := rfl
theorem g_open_meant (m : S6) (v : Int32) : S6_open (S6_set_meant m v) = S6_open m := rfl
theorem g_open_done (m : S6) (v : Int32) : S6_open (S6_set_done m v) = S6_open m := rfl
theorem g_open_into (m : S6) (v : Int32) : S6_open (S6_set_into m v) = S6_open m := rfl
theorem g_open_it (m : S6) (v : Int32) : S6_open (S6_set_it m v) = S6_open m := rfl
theorem g_open_questions (m : S6) (v : Int32) : S6_open (S6_set_questions m v) = S6_open m := rfl
theorem g_open_length (m : S6) (v : Int32) : S6_open (S6_set_length m v) = S6_open m := rfl
theorem g_open_order (m : S6) (v : Nat → Int32) : S6_open (S6_set_order m v) = S6_open m := rfl
theorem g_open_answer (m : S6) (v : Nat → Int32) : S6_open (S6_set_answer m v) = S6_open m := rfl
theorem g_open_asked (m : S6) (v : Int32) : S6_open (S6_set_asked m v) = S6_open m := rfl
theorem g_open_askedAt (m : S6) (v : Int32) : S6_open (S6_set_askedAt m v) = S6_open m := rfl
theorem g_open_at (m : S6) (v : Int32) : S6_open (S6_set_at m v) = S6_open m := rfl
theorem g_open_failedAt (m : S6) (v : Int32) : S6_open (S6_set_failedAt m v) = S6_open m := rfl
theorem g_open_choice (m : S6) (v : Int32) : S6_open (S6_set_choice m v) = S6_open m := rfl
theorem g_open_thrown (m : S6) (v : Int32) : S6_open (S6_set_thrown m v) = S6_open m := rfl
theorem g_place_things (m : S6) (v : Int32) : S6_place (S6_set_things m v) = S6_place m := rfl
theorem g_place_noun (m : S6) (v : Nat → Int32) : S6_place (S6_set_noun m v) = S6_place m := rfl
theorem g_place_adjectives (m : S6) (v : Nat → Int32) : S6_place (S6_set_adjectives m v) = S6_place m := rfl
theorem g_place_box (m : S6) (v : Nat → Int32) : S6_place (S6_set_box m v) = S6_place m := rfl
theorem g_place_open (m : S6) (v : Nat → Int32) : S6_place (S6_set_open m v) = S6_place m := rfl
theorem g_place_place (m : S6) (v : Nat → Int32) : S6_place (S6_set_place m v) = v := rfl
theorem g_place_count (m : S6) (v : Int32) : S6_place (S6_set_count m v) = S6_place m := rfl
theorem g_place_words (m : S6) (v : Nat → Int32) : S6_place (S6_set_words m v) = S6_place m := rfl
theorem g_place_outcome (m : S6) (v : Int32) : S6_place (S6_set_outcome m v) = S6_place m := rfl
theorem g_place_wrongAt (m : S6) (v : Int32) : S6_place (S6_set_wrongAt m v) = S6_place m := rfl
theorem g_place_verb (m : S6) (v : Int32) : S6_place (S6_set_verb m v) = S6_place m := rfl
theorem g_place_meant (m : S6) (v : Int32) : S6_place (S6_set_meant m v) = S6_place m := rfl
theorem g_place_done (m : S6) (v : Int32) : S6_place (S6_set_done m v) = S6_place m := rfl
theorem g_place_into (m : S6) (v : Int32) : S6_place (S6_set_into m v) = S6_place m := rfl
theorem g_place_it (m : S6) (v : Int32) : S6_place (S6_set_it m v) = S6_place m := rfl
theorem g_place_questions (m : S6) (v : Int32) : S6_place (S6_set_questions m v) = S6_place m := rfl
theorem g_place_length (m : S6) (v : Int32) : S6_place (S6_set_length m v) = S6_place m := rfl
theorem g_place_order (m : S6) (v : Nat → Int32) : S6_place (S6_set_order m v) = S6_place m := rfl
theorem g_place_answer (m : S6) (v : Nat → Int32) : S6_place (S6_set_answer m v) = S6_place m := rfl
theorem g_place_asked (m : S6) (v : Int32) : S6_place (S6_set_asked m v) = S6_place m := rfl
theorem g_place_askedAt (m : S6) (v : Int32) : S6_place (S6_set_askedAt m v) = S6_place m := rfl
theorem g_place_at (m : S6) (v : Int32) : S6_place (S6_set_at m v) = S6_place m := rfl
theorem g_place_failedAt (m : S6) (v : Int32) : S6_place (S6_set_failedAt m v) = S6_place m := rfl
theorem g_place_choice (m : S6) (v : Int32) : S6_place (S6_set_choice m v) = S6_place m := rfl
theorem g_place_thrown (m : S6) (v : Int32) : S6_place (S6_set_thrown m v) = S6_place m := rfl
theorem g_count_things (m : S6) (v : Int32) : S6_count (S6_set_things m v) = S6_count m := rfl
theorem g_count_noun (m : S6) (v : Nat → Int32) : S6_count (S6_set_noun m v) = S6_count m := rfl
theorem g_count_adjectives (m : S6) (v : Nat → Int32) : S6_count (S6_set_adjectives m v) = S6_count m := rfl
theorem g_count_box (m : S6) (v : Nat → Int32) : S6_count (S6_set_box m v) = S6_count m := rfl
theorem g_count_open (m : S6) (v : Nat → Int32) : S6_count (S6_set_open m v) = S6_count m := rfl
theorem g_count_place (m : S6) (v : Nat → Int32) : S6_count (S6_set_place m v) = S6_count m := rfl
theorem g_count_count (m : S6) (v : Int32) : S6_count (S6_set_count m v) = v := rfl
theorem g_count_words (m : S6) (v : Nat → Int32) : S6_count (S6_set_words m v) = S6_count m := rfl
theorem g_count_outcome (m : S6) (v : Int32) : S6_count (S6_set_outcome m v) = S6_count m := rfl
theorem g_count_wrongAt (m : S6) (v : Int32) : S6_count (S6_set_wrongAt m v) = S6_count m := rfl
theorem g_count_verb (m : S6) (v : Int32) : S6_count (S6_set_verb m v) = S6_count m := rfl
theorem g_count_meant (m : S6) (v : Int32) : S6_count (S6_set_meant m v) = S6_count m := rfl
theorem g_count_done (m : S6) (v : Int32) : S6_count (S6_set_done m v) = S6_count m := rfl
theorem g_count_into (m : S6) (v : Int32) : S6_count (S6_set_into m v) = S6_count m := rfl
theorem g_count_it (m : S6) (v : Int32) : S6_count (S6_set_it m v) = S6_count m := rfl
theorem g_count_questions (m : S6) (v : Int32) : S6_count (S6_set_questions m v) = S6_count m := rfl
theorem g_count_length (m : S6) (v : Int32) : S6_count (S6_set_length m v) = S6_count m := rfl
theorem g_count_order (m : S6) (v : Nat → Int32) : S6_count (S6_set_order m v) = S6_count m := rfl
theorem g_count_answer (m : S6) (v : Nat → Int32) : S6_count (S6_set_answer m v) = S6_count m := rfl
theorem g_count_asked (m : S6) (v : Int32) : S6_count (S6_set_asked m v) = S6_count m := rfl
theorem g_count_askedAt (m : S6) (v : Int32) : S6_count (S6_set_askedAt m v) = S6_count m := rfl
theorem g_count_at (m : S6) (v : Int32) : S6_count (S6_set_at m v) = S6_count m := rfl
theorem g_count_failedAt (m : S6) (v : Int32) : S6_count (S6_set_failedAt m v) = S6_count m := rfl
theorem g_count_choice (m : S6) (v : Int32) : S6_count (S6_set_choice m v) = S6_count m := rfl
theorem g_count_thrown (m : S6) (v : Int32) : S6_count (S6_set_thrown m v) = S6_count m := rfl
theorem g_words_things (m : S6) (v : Int32) : S6_words (S6_set_things m v) = S6_words m := rfl
theorem g_words_noun (m : S6) (v : Nat → Int32) : S6_words (S6_set_noun m v) = S6_words m := rfl
theorem g_words_adjectives (m : S6) (v : Nat → Int32) : S6_words (S6_set_adjectives m v) = S6_words m := rfl
theorem g_words_box (m : S6) (v : Nat → Int32) : S6_words (S6_set_box m v) = S6_words m := rfl
theorem g_words_open (m : S6) (v : Nat → Int32) : S6_words (S6_set_open m v) = S6_words m := rfl
theorem g_words_place (m : S6) (v : Nat → Int32) : S6_words (S6_set_place m v) = S6_words m := rfl
theorem g_words_count (m : S6) (v : Int32) : S6_words (S6_set_count m v) = S6_words m := rfl
theorem g_words_words (m : S6) (v : Nat → Int32) : S6_words (S6_set_words m v) = v := rfl
theorem g_words_outcome (m : S6) (v : Int32) : S6_words (S6_set_outcome m v) = S6_words m := rfl
theorem g_words_wrongAt (m : S6) (v : Int32) : S6_words (S6_set_wrongAt m v) = S6_words m := rfl
theorem g_words_verb (m : S6) (v : Int32) : S6_words (S6_set_verb m v) = S6_words m := rfl
theorem g_words_meant (m : S6) (v : Int32) : S6_words (S6_set_meant m v) = S6_words m := rfl
theorem g_words_done (m : S6) (v : Int32) : S6_words (S6_set_done m v) = S6_words m := rfl
theorem g_words_into (m : S6) (v : Int32) : S6_words (S6_set_into m v) = S6_words m := rfl
theorem g_words_it (m : S6) (v : Int32) : S6_words (S6_set_it m v) = S6_words m := rfl
theorem g_words_questions (m : S6) (v : Int32) : S6_words (S6_set_questions m v) = S6_words m := rfl
theorem g_words_length (m : S6) (v : Int32) : S6_words (S6_set_length m v) = S6_words m := rfl
theorem g_words_order (m : S6) (v : Nat → Int32) : S6_words (S6_set_order m v) = S6_words m := rfl
theorem g_words_answer (m : S6) (v : Nat → Int32) : S6_words (S6_set_answer m v) = S6_words m := rfl
theorem g_words_asked (m : S6) (v : Int32) : S6_words (S6_set_asked m v) = S6_words m := rfl
theorem g_words_askedAt (m : S6) (v : Int32) : S6_words (S6_set_askedAt m v) = S6_words m := rfl
theorem g_words_at (m : S6) (v : Int32) : S6_words (S6_set_at m v) = S6_words m := rfl
theorem g_words_failedAt (m : S6) (v : Int32) : S6_words (S6_set_failedAt m v) = S6_words m := rfl
theorem g_words_choice (m : S6) (v : Int32) : S6_words (S6_set_choice m v) = S6_words m := rfl
theorem g_words_thrown (m : S6) (v : Int32) : S6_words (S6_set_thrown m v) = S6_words m := rfl
theorem g_outcome_things (m : S6) (v : Int32) : S6_outcome (S6_set_things m v) = S6_outcome m := rfl
theorem g_outcome_noun (m : S6) (v : Nat → Int32) : S6_outcome (S6_set_noun m v) = S6_outcome m := rfl
theorem g_outcome_adjectives (m : S6) (v : Nat → Int32) : S6_outcome (S6_set_adjectives m v) = S6_outcome m := rfl
theorem g_outcome_box (m : S6) (v : Nat → Int32) : S6_outcome (S6_set_box m v) = S6_outcome m := rfl
theorem g_outcome_open (m : S6) (v : Nat → Int32) : S6_outcome (S6_set_open m v) = S6_outcome m := rfl
theorem g_outcome_place (m : S6) (v : Nat → Int32) : S6_outcome (S6_set_place m v) = S6_outcome m := rfl
theorem g_outcome_count (m : S6) (v : Int32) : S6_outcome (S6_set_count m v) = S6_outcome m := rfl
theorem g_outcome_words (m : S6) (v : Nat → Int32) : S6_outcome (S6_set_words m v) = S6_outcome m := rfl
theorem g_outcome_outcome (m : S6) (v : Int32) : S6_outcome (S6_set_outcome m v) = v := rfl
theorem g_outcome_wrongAt (m : S6) (v : Int32) : S6_outcome (S6_set_wrongAt m v) = S6_outcome m := rfl
theorem g_outcome_verb (m : S6) (v : Int32) : S6_outcome (S6_set_verb m v) = S6_outcome m := rfl
theorem g_outcome_meant (m : S6) (v : Int32) : S6_outcome (S6_set_meant m v) = S6_outcome m := rfl
theorem g_outcome_done (m : S6) (v : Int32) : S6_outcome (S6_set_done m v) = S6_outcome m := rfl
theorem g_outcome_into (m : S6) (v : Int32) : S6_outcome (S6_set_into m v) = S6_outcome m := rfl
theorem g_outcome_it (m : S6) (v : Int32) : S6_outcome (S6_set_it m v) = S6_outcome m := rfl
theorem g_outcome_questions (m : S6) (v : Int32) : S6_outcome (S6_set_questions m v) = S6_outcome m := rfl
theorem g_outcome_length (m : S6) (v : Int32) : S6_outcome (S6_set_length m v) = S6_outcome m := rfl
theorem g_outcome_order (m : S6) (v : Nat → Int32) : S6_outcome (S6_set_order m v) = S6_outcome m := rfl
theorem g_outcome_answer (m : S6) (v : Nat → Int32) : S6_outcome (S6_set_answer m v) = S6_outcome m := rfl
theorem g_outcome_asked (m : S6) (v : Int32) : S6_outcome (S6_set_asked m v) = S6_outcome m := rfl
theorem g_outcome_askedAt (m : S6) (v : Int32) : S6_outcome (S6_set_askedAt m v) = S6_outcome m := rfl
theorem g_outcome_at (m : S6) (v : Int32) : S6_outcome (S6_set_at m v) = S6_outcome m := rfl
theorem g_outcome_failedAt (m : S6) (v : Int32) : S6_outcome (S6_set_failedAt m v) = S6_outcome m := rfl
theorem g_outcome_choice (m : S6) (v : Int32) : S6_outcome (S6_set_choice m v) = S6_outcome m := rfl
theorem g_outcome_thrown (m : S6) (v : Int32) : S6_outcome (S6_set_thrown m v) = S6_outcome m := rfl
theorem g_wrongAt_things (m : S6) (v : Int32) : S6_wrongAt (S6_set_things m v) = S6_wrongAt m := rfl
theorem g_wrongAt_noun (m : S6) (v : Nat → Int32) : S6_wrongAt (S6_set_noun m v) = S6_wrongAt m := rfl
theorem g_wrongAt_adjectives (m : S6) (v : Nat → Int32) : S6_wrongAt (S6_set_adjectives m v) = S6_wrongAt m := rfl
theorem g_wrongAt_box (m : S6) (v : Nat → Int32) : S6_wrongAt (S6_set_box m v) = S6_wrongAt m := rfl
theorem g_wrongAt_open (m : S6) (v : Nat → Int32) : S6_wrongAt (S6_set_open m v) = S6_wrongAt m := rfl
theorem g_wrongAt_place (m : S6) (v : Nat → Int32) : S6_wrongAt (S6_set_place m v) = S6_wrongAt m := rfl
theorem g_wrongAt_count (m : S6) (v : Int32) : S6_wrongAt (S6_set_count m v) = S6_wrongAt m := rfl
theorem g_wrongAt_words (m : S6) (v : Nat → Int32) : S6_wrongAt (S6_set_words m v) = S6_wrongAt m := rfl
theorem g_wrongAt_outcome (m : S6) (v : Int32) : S6_wrongAt (S6_set_outcome m v) = S6_wrongAt m := rfl
theorem g_wrongAt_wrongAt (m : S6) (v : Int32) : S6_wrongAt (S6_set_wrongAt m v) = v := rfl
theorem g_wrongAt_verb (m : S6) (v : Int32) : S6_wrongAt (S6_set_verb m v) = S6_wrongAt m := rfl
theorem g_wrongAt_meant (m : S6) (v : Int32) : S6_wrongAt (S6_set_meant m v) = S6_wrongAt m := rfl
theorem g_wrongAt_done (m : S6) (v : Int32) : S6_wrongAt (S6_set_done m v) = S6_wrongAt m := rfl
theorem g_wrongAt_into (m : S6) (v : Int32) : S6_wrongAt (S6_set_into m v) = S6_wrongAt m := rfl
theorem g_wrongAt_it (m : S6) (v : Int32) : S6_wrongAt (S6_set_it m v) = S6_wrongAt m := rfl
theorem g_wrongAt_questions (m : S6) (v : Int32) : S6_wrongAt (S6_set_questions m v) = S6_wrongAt m := rfl
theorem g_wrongAt_length (m : S6) (v : Int32) : S6_wrongAt (S6_set_length m v) = S6_wrongAt m := rfl
theorem g_wrongAt_order (m : S6) (v : Nat → Int32) : S6_wrongAt (S6_set_order m v) = S6_wrongAt m := rfl
theorem g_wrongAt_answer (m : S6) (v : Nat → Int32) : S6_wrongAt (S6_set_answer m v) = S6_wrongAt m := rfl
theorem g_wrongAt_asked (m : S6) (v : Int32) : S6_wrongAt (S6_set_asked m v) = S6_wrongAt m := rfl
theorem g_wrongAt_askedAt (m : S6) (v : Int32) : S6_wrongAt (S6_set_askedAt m v) = S6_wrongAt m := rfl
theorem g_wrongAt_at (m : S6) (v : Int32) : S6_wrongAt (S6_set_at m v) = S6_wrongAt m := rfl
theorem g_wrongAt_failedAt (m : S6) (v : Int32) : S6_wrongAt (S6_set_failedAt m v) = S6_wrongAt m := rfl
theorem g_wrongAt_choice (m : S6) (v : Int32) : S6_wrongAt (S6_set_choice m v) = S6_wrongAt m := rfl
theorem g_wrongAt_thrown (m : S6) (v : Int32) : S6_wrongAt (S6_set_thrown m v) = S6_wrongAt m := rfl
theorem g_verb_things (m : S6) (v : Int32) : S6_verb (S6_set_things m v) = S6_verb m := rfl
theorem g_verb_noun (m : S6) (v : Nat → Int32) : S6_verb (S6_set_noun m v) = S6_verb m := rfl
theorem g_verb_adjectives (m : S6) (v : Nat → Int32) : S6_verb (S6_set_adjectives m v) = S6_verb m := rfl
theorem g_verb_box (m : S6) (v : Nat → Int32) : S6_verb (S6_set_box m v) = S6_verb m := rfl
theorem g_verb_open (m : S6) (v : Nat → Int32) : S6_verb (S6_set_open m v) = S6_verb m := rfl
theorem g_verb_place (m : S6) (v : Nat → Int32) : S6_verb (S6_set_place m v) = S6_verb m := rfl
theorem g_verb_count (m : S6) (v : Int32) : S6_verb (S6_set_count m v) = S6_verb m := rfl
theorem g_verb_words (m : S6) (v : Nat → Int32) : S6_verb (S6_set_words m v) = S6_verb m := rfl
theorem g_verb_outcome (m : S6) (v : Int32) : S6_verb (S6_set_outcome m v) = S6_verb m := rfl
theorem g_verb_wrongAt (m : S6) (v : Int32) : S6_verb (S6_set_wrongAt m v) = S6_verb m := rfl
theorem g_verb_verb (m : S6) (v : Int32) : S6_verb (S6_set_verb m v) = v := rfl
theorem g_verb_meant (m : S6) (v : Int32) : S6_verb (S6_set_meant m v) = S6_verb m := rfl
theorem g_verb_done (m : S6) (v : Int32) : S6_verb (S6_set_done m v) = S6_verb m := rfl
theorem g_verb_into (m : S6) (v : Int32) : S6_verb (S6_set_into m v) = S6_verb m := rfl
theorem g_verb_it (m : S6) (v : Int32) : S6_verb (S6_set_it m v) = S6_verb m := rfl
theorem g_verb_questions (m : S6) (v : Int32) : S6_verb (S6_set_questions m v) = S6_verb m := rfl
theorem g_verb_length (m : S6) (v : Int32) : S6_verb (S6_set_length m v) = S6_verb m := rfl
theorem g_verb_order (m : S6) (v : Nat → Int32) : S6_verb (S6_set_order m v) = S6_verb m := rfl
theorem g_verb_answer (m : S6) (v : Nat → Int32) : S6_verb (S6_set_answer m v) = S6_verb m := rfl
theorem g_verb_asked (m : S6) (v : Int32) : S6_verb (S6_set_asked m v) = S6_verb m := rfl
theorem g_verb_askedAt (m : S6) (v : Int32) : S6_verb (S6_set_askedAt m v) = S6_verb m := rfl
theorem g_verb_at (m : S6) (v : Int32) : S6_verb (S6_set_at m v) = S6_verb m := rfl
theorem g_verb_failedAt (m : S6) (v : Int32) : S6_verb (S6_set_failedAt m v) = S6_verb m := rfl
theorem g_verb_choice (m : S6) (v : Int32) : S6_verb (S6_set_choice m v) = S6_verb m := rfl
theorem g_verb_thrown (m : S6) (v : Int32) : S6_verb (S6_set_thrown m v) = S6_verb m := rfl
theorem g_meant_things (m : S6) (v : Int32) : S6_meant (S6_set_things m v) = S6_meant m := rfl
theorem g_meant_noun (m : S6) (v : Nat → Int32) : S6_meant (S6_set_noun m v) = S6_meant m := rfl
theorem g_meant_adjectives (m : S6) (v : Nat → Int32) : S6_meant (S6_set_adjectives m v) = S6_meant m := rfl
theorem g_meant_box (m : S6) (v : Nat → Int32) : S6_meant (S6_set_box m v) = S6_meant m := rfl
theorem g_meant_open (m : S6) (v : Nat → Int32) : S6_meant (S6_set_open m v) = S6_meant m := rfl
theorem g_meant_place (m : S6) (v : Nat → Int32) : S6_meant (S6_set_place m v) = S6_meant m := rfl
theorem g_meant_count (m : S6) (v : Int32) : S6_meant (S6_set_count m v) = S6_meant m := rfl
theorem g_meant_words (m : S6) (v : Nat → Int32) : S6_meant (S6_set_words m v) = S6_meant m := rfl
theorem g_meant_outcome (m : S6) (v : Int32) : S6_meant (S6_set_outcome m v) = S6_meant m := rfl
theorem g_meant_wrongAt (m : S6) (v : Int32) : S6_meant (S6_set_wrongAt m v) = S6_meant m := rfl
theorem g_meant_verb (m : S6) (v : Int32) : S6_meant (S6_set_verb m v) = S6_meant m := rfl
theorem g_meant_meant (m : S6) (v : Int32) : S6_meant (S6_set_meant m v) = v := rfl
theorem g_meant_done (m : S6) (v : Int32) : S6_meant (S6_set_done m v) = S6_meant m := rfl
theorem g_meant_into (m : S6) (v : Int32) : S6_meant (S6_set_into m v) = S6_meant m := rfl
theorem g_meant_it (m : S6) (v : Int32) : S6_meant (S6_set_it m v) = S6_meant m := rfl
theorem g_meant_questions (m : S6) (v : Int32) : S6_meant (S6_set_questions m v) = S6_meant m := rfl
theorem g_meant_length (m : S6) (v : Int32) : S6_meant (S6_set_length m v) = S6_meant m := rfl
theorem g_meant_order (m : S6) (v : Nat → Int32) : S6_meant (S6_set_order m v) = S6_meant m := rfl
theorem g_meant_answer (m : S6) (v : Nat → Int32) : S6_meant (S6_set_answer m v) = S6_meant m := rfl
theorem g_meant_asked (m : S6) (v : Int32) : S6_meant (S6_set_asked m v) = S6_meant m := rfl
theorem g_meant_askedAt (m : S6) (v : Int32) : S6_meant (S6_set_askedAt m v) = S6_meant m := rfl
theorem g_meant_at (m : S6) (v : Int32) : S6_meant (S6_set_at m v) = S6_meant m := rfl
theorem g_meant_failedAt (m : S6) (v : Int32) : S6_meant (S6_set_failedAt m v) = S6_meant m := rfl
theorem g_meant_choice (m : S6) (v : Int32) : S6_meant (S6_set_choice m v) = S6_meant m := rfl
theorem g_meant_thrown (m : S6) (v : Int32) : S6_meant (S6_set_thrown m v) = S6_meant m := rfl
theorem g_done_things (m : S6) (v : Int32) : S6_done (S6_set_things m v) = S6_done m := rfl
theorem g_done_noun (m : S6) (v : Nat → Int32) : S6_done (S6_set_noun m v) = S6_done m := rfl
theorem g_done_adjectives (m : S6) (v : Nat → Int32) : S6_done (S6_set_adjectives m v) = S6_done m := rfl
theorem g_done_box (m : S6) (v : Nat → Int32) : S6_done (S6_set_box m v) = S6_done m := rfl
theorem g_done_open (m : S6) (v : Nat → Int32) : S6_done (S6_set_open m v) = S6_done m := rfl
theorem g_done_place (m : S6) (v : Nat → Int32) : S6_done (S6_set_place m v) = S6_done m := rfl
theorem g_done_count (m : S6) (v : Int32) : S6_done (S6_set_count m v) = S6_done m := rfl
theorem g_done_words (m : S6) (v : Nat → Int32) : S6_done (S6_set_words m v) = S6_done m := rfl
theorem g_done_outcome (m : S6) (v : Int32) : S6_done (S6_set_outcome m v) = S6_done m := rfl
theorem g_done_wrongAt (m : S6) (v : Int32) : S6_done (S6_set_wrongAt m v) = S6_done m := rfl
theorem g_done_verb (m : S6) (v : Int32) : S6_done (S6_set_verb m v) = S6_done m := rfl
theorem g_done_meant (m : S6) (v : Int32) : S6_done (S6_set_meant m v) = S6_done m := rfl
theorem g_done_done (m : S6) (v : Int32) : S6_done (S6_set_done m v) = v := rfl
theorem g_done_into (m : S6) (v : Int32) : S6_done (S6_set_into m v) = S6_done m := rfl
theorem g_done_it (m : S6) (v : Int32) : S6_done (S6_set_it m v) = S6_done m := rfl
theorem g_done_questions (m : S6) (v : Int32) : S6_done (S6_set_questions m v) = S6_done m := rfl
theorem g_done_length (m : S6) (v : Int32) : S6_done (S6_set_length m v) = S6_done m := rfl
theorem g_done_order (m : S6) (v : Nat → Int32) : S6_done (S6_set_order m v) = S6_done m := rfl
theorem g_done_answer (m : S6) (v : Nat → Int32) : S6_done (S6_set_answer m v) = S6_done m := rfl
theorem g_done_asked (m : S6) (v : Int32) : S6_done (S6_set_asked m v) = S6_done m := rfl
theorem g_done_askedAt (m : S6) (v : Int32) : S6_done (S6_set_askedAt m v) = S6_done m := rfl
theorem g_done_at (m : S6) (v : Int32) : S6_done (S6_set_at m v) = S6_done m := rfl
theorem g_done_failedAt (m : S6) (v : Int32) : S6_done (S6_set_failedAt m v) = S6_done m := rfl
theorem g_done_choice (m : S6) (v : Int32) : S6_done (S6_set_choice m v) = S6_done m := rfl
theorem g_done_thrown (m : S6) (v : Int32) : S6_done (S6_set_thrown m v) = S6_done m := rfl
theorem g_into_things (m : S6) (v : Int32) : S6_into (S6_set_things m v) = S6_into m := rfl
theorem g_into_noun (m : S6) (v : Nat → Int32) : S6_into (S6_set_noun m v) = S6_into m := rfl
theorem g_into_adjectives (m : S6) (v : Nat → Int32) : S6_into (S6_set_adjectives m v) = S6_into m := rfl
theorem g_into_box (m : S6) (v : Nat → Int32) : S6_into (S6_set_box m v) = S6_into m := rfl
theorem g_into_open (m : S6) (v : Nat → Int32) : S6_into (S6_set_open m v) = S6_into m := rfl
theorem g_into_place (m : S6) (v : Nat → Int32) : S6_into (S6_set_place m v) = S6_into m := rfl
theorem g_into_count (m : S6) (v : Int32) : S6_into (S6_set_count m v) = S6_into m := rfl
theorem g_into_words (m : S6) (v : Nat → Int32) : S6_into (S6_set_words m v) = S6_into m := rfl
theorem g_into_outcome (m : S6) (v : Int32) : S6_into (S6_set_outcome m v) = S6_into m := rfl
theorem g_into_wrongAt (m : S6) (v : Int32) : S6_into (S6_set_wrongAt m v) = S6_into m := rfl
theorem g_into_verb (m : S6) (v : Int32) : S6_into (S6_set_verb m v) = S6_into m := rfl
theorem g_into_meant (m : S6) (v : Int32) : S6_into (S6_set_meant m v) = S6_into m := rfl
theorem g_into_done (m : S6) (v : Int32) : S6_into (S6_set_done m v) = S6_into m := rfl
theorem g_into_into (m : S6) (v : Int32) : S6_into (S6_set_into m v) = v := rfl
theorem g_into_it (m : S6) (v : Int32) : S6_into (S6_set_it m v) = S6_into m := rfl
theorem g_into_questions (m : S6) (v : Int32) : S6_into (S6_set_questions m v) = S6_into m := rfl
theorem g_into_length (m : S6) (v : Int32) : S6_into (S6_set_length m v) = S6_into m := rfl
theorem g_into_order (m : S6) (v : Nat → Int32) : S6_into (S6_set_order m v) = S6_into m := rfl
theorem g_into_answer (m : S6) (v : Nat → Int32) : S6_into (S6_set_answer m v) = S6_into m := rfl
theorem g_into_asked (m : S6) (v : Int32) : S6_into (S6_set_asked m v) = S6_into m := rfl
theorem g_into_askedAt (m : S6) (v : Int32) : S6_into (S6_set_askedAt m v) = S6_into m := rfl
theorem g_into_at (m : S6) (v : Int32) : S6_into (S6_set_at m v) = S6_into m := rfl
theorem g_into_failedAt (m : S6) (v : Int32) : S6_into (S6_set_failedAt m v) = S6_into m := rfl
theorem g_into_choice (m : S6) (v : Int32) : S6_into (S6_set_choice m v) = S6_into m := rfl
theorem g_into_thrown (m : S6) (v : Int32) : S6_into (S6_set_thrown m v) = S6_into m := rfl
theorem g_it_things (m : S6) (v : Int32) : S6_it (S6_set_things m v) = S6_it m := rfl
theorem g_it_noun (m : S6) (v : Nat → Int32) : S6_it (S6_set_noun m v) = S6_it m := rfl
theorem g_it_adjectives (m : S6) (v : Nat → Int32) : S6_it (S6_set_adjectives m v) = S6_it m := rfl
theorem g_it_box (m : S6) (v : Nat → Int32) : S6_it (S6_set_box m v) = S6_it m := rfl
theorem g_it_open (m : S6) (v : Nat → Int32) : S6_it (S6_set_open m v) = S6_it m := rfl
theorem g_it_place (m : S6) (v : Nat → Int32) : S6_it (S6_set_place m v) = S6_it m := rfl
theorem g_it_count (m : S6) (v : Int32) : S6_it (S6_set_count m v) = S6_it m := rfl
theorem g_it_words (m : S6) (v : Nat → Int32) : S6_it (S6_set_words m v) = S6_it m := rfl
theorem g_it_outcome (m : S6) (v : Int32) : S6_it (S6_set_outcome m v) = S6_it m := rfl
theorem g_it_wrongAt (m : S6) (v : Int32) : S6_it (S6_set_wrongAt m v) = S6_it m := rfl
theorem g_it_verb (m : S6) (v : Int32) : S6_it (S6_set_verb m v) = S6_it m := rfl
theorem g_it_meant (m : S6) (v : Int32) : S6_it (S6_set_meant m v) = S6_it m := rfl
theorem g_it_done (m : S6) (v : Int32) : S6_it (S6_set_done m v) = S6_it m := rfl
theorem g_it_into (m : S6) (v : Int32) : S6_it (S6_set_into m v) = S6_it m := rfl
theorem g_it_it (m : S6) (v : Int32) : S6_it (S6_set_it m v) = v := rfl
theorem g_it_questions (m : S6) (v : Int32) : S6_it (S6_set_questions m v) = S6_it m := rfl
theorem g_it_length (m : S6) (v : Int32) : S6_it (S6_set_length m v) = S6_it m := rfl
theorem g_it_order (m : S6) (v : Nat → Int32) : S6_it (S6_set_order m v) = S6_it m := rfl
theorem g_it_answer (m : S6) (v : Nat → Int32) : S6_it (S6_set_answer m v) = S6_it m := rfl
theorem g_it_asked (m : S6) (v : Int32) : S6_it (S6_set_asked m v) = S6_it m := rfl
theorem g_it_askedAt (m : S6) (v : Int32) : S6_it (S6_set_askedAt m v) = S6_it m := rfl
theorem g_it_at (m : S6) (v : Int32) : S6_it (S6_set_at m v) = S6_it m := rfl
theorem g_it_failedAt (m : S6) (v : Int32) : S6_it (S6_set_failedAt m v) = S6_it m := rfl
theorem g_it_choice (m : S6) (v : Int32) : S6_it (S6_set_choice m v) = S6_it m := rfl
theorem g_it_thrown (m : S6) (v : Int32) : S6_it (S6_set_thrown m v) = S6_it m := rfl
theorem g_questions_things (m : S6) (v : Int32) : S6_questions (S6_set_things m v) = S6_questions m := rfl
theorem g_questions_noun (m : S6) (v : Nat → Int32) : S6_questions (S6_set_noun m v) = S6_questions m := rfl
theorem g_questions_adjectives (m : S6) (v : Nat → Int32) : S6_questions (S6_set_adjectives m v) = S6_questions m := rfl
theorem g_questions_box (m : S6) (v : Nat → Int32) : S6_questions (S6_set_box m v) = S6_questions m := rfl
theorem g_questions_open (m : S6) (v : Nat → Int32) : S6_questions (S6_set_open m v) = S6_questions m := rfl
theorem g_questions_place (m : S6) (v : Nat → Int32) : S6_questions (S6_set_place m v) = S6_questions m := rfl
theorem g_questions_count (m : S6) (v : Int32) : S6_questions (S6_set_count m v) = S6_questions m := rfl
theorem g_questions_words (m : S6) (v : Nat → Int32) : S6_questions (S6_set_words m v) = S6_questions m := rfl
theorem g_questions_outcome (m : S6) (v : Int32) : S6_questions (S6_set_outcome m v) = S6_questions m := rfl
theorem g_questions_wrongAt (m : S6) (v : Int32) : S6_questions (S6_set_wrongAt m v) = S6_questions m := rfl
theorem g_questions_verb (m : S6) (v : Int32) : S6_questions (S6_set_verb m v) = S6_questions m := rfl
theorem g_questions_meant (m : S6) (v : Int32) : S6_questions (S6_set_meant m v) = S6_questions m := rfl
theorem g_questions_done (m : S6) (v : Int32) : S6_questions (S6_set_done m v) = S6_questions m := rfl
theorem g_questions_into (m : S6) (v : Int32) : S6_questions (S6_set_into m v) = S6_questions m := rfl
theorem g_questions_it (m : S6) (v : Int32) : S6_questions (S6_set_it m v) = S6_questions m := rfl
theorem g_questions_questions (m : S6) (v : Int32) : S6_questions (S6_set_questions m v) = v := rfl
theorem g_questions_length (m : S6) (v : Int32) : S6_questions (S6_set_length m v) = S6_questions m := rfl
theorem g_questions_order (m : S6) (v : Nat → Int32) : S6_questions (S6_set_order m v) = S6_questions m := rfl
theorem g_questions_answer (m : S6) (v : Nat → Int32) : S6_questions (S6_set_answer m v) = S6_questions m := rfl
theorem g_questions_asked (m : S6) (v : Int32) : S6_questions (S6_set_asked m v) = S6_questions m := rfl
theorem g_questions_askedAt (m : S6) (v : Int32) : S6_questions (S6_set_askedAt m v) = S6_questions m := rfl
theorem g_questions_at (m : S6) (v : Int32) : S6_questions (S6_set_at m v) = S6_questions m := rfl
theorem g_questions_failedAt (m : S6) (v : Int32) : S6_questions (S6_set_failedAt m v) = S6_questions m := rfl
theorem g_questions_choice (m : S6) (v : Int32) : S6_questions (S6_set_choice m v) = S6_questions m := rfl
theorem g_questions_thrown (m : S6) (v : Int32) : S6_questions (S6_set_thrown m v) = S6_questions m := rfl
theorem g_length_things (m : S6) (v : Int32) : S6_length (S6_set_things m v) = S6_length m := rfl
theorem g_length_noun (m : S6) (v : Nat → Int32) : S6_length (S6_set_noun m v) = S6_length m := rfl
theorem g_length_adjectives (m : S6) (v : Nat → Int32) : S6_length (S6_set_adjectives m v) = S6_length m := rfl
theorem g_length_box (m : S6) (v : Nat → Int32) : S6_length (S6_set_box m v) = S6_length m := rfl
theorem g_length_open (m : S6) (v : Nat → Int32) : S6_length (S6_set_open m v) = S6_length m := rfl
theorem g_length_place (m : S6) (v : Nat → Int32) : S6_length (S6_set_place m v) = S6_length m := rfl
theorem g_length_count (m : S6) (v : Int32) : S6_length (S6_set_count m v) = S6_length m := rfl
theorem g_length_words (m : S6) (v : Nat → Int32) : S6_length (S6_set_words m v) = S6_length m := rfl
theorem g_length_outcome (m : S6) (v : Int32) : S6_length (S6_set_outcome m v) = S6_length m := rfl
theorem g_length_wrongAt (m : S6) (v : Int32) : S6_length (S6_set_wrongAt m v) = S6_length m := rfl
theorem g_length_verb (m : S6) (v : Int32) : S6_length (S6_set_verb m v) = S6_length m := rfl
theorem g_length_meant (m : S6) (v : Int32) : S6_length (S6_set_meant m v) = S6_length m := rfl
theorem g_length_done (m : S6) (v : Int32) : S6_length (S6_set_done m v) = S6_length m := rfl
theorem g_length_into (m : S6) (v : Int32) : S6_length (S6_set_into m v) = S6_length m := rfl
theorem g_length_it (m : S6) (v : Int32) : S6_length (S6_set_it m v) = S6_length m := rfl
theorem g_length_questions (m : S6) (v : Int32) : S6_length (S6_set_questions m v) = S6_length m := rfl
theorem g_length_length (m : S6) (v : Int32) : S6_length (S6_set_length m v) = v := rfl
theorem g_length_order (m : S6) (v : Nat → Int32) : S6_length (S6_set_order m v) = S6_length m := rfl
theorem g_length_answer (m : S6) (v : Nat → Int32) : S6_length (S6_set_answer m v) = S6_length m := rfl
theorem g_length_asked (m : S6) (v : Int32) : S6_length (S6_set_asked m v) = S6_length m := rfl
theorem g_length_askedAt (m : S6) (v : Int32) : S6_length (S6_set_askedAt m v) = S6_length m := rfl
theorem g_length_at (m : S6) (v : Int32) : S6_length (S6_set_at m v) = S6_length m := rfl
theorem g_length_failedAt (m : S6) (v : Int32) : S6_length (S6_set_failedAt m v) = S6_length m := rfl
theorem g_length_choice (m : S6) (v : Int32) : S6_length (S6_set_choice m v) = S6_length m := rfl
theorem g_length_thrown (m : S6) (v : Int32) : S6_length (S6_set_thrown m v) = S6_length m := rfl
theorem g_order_things (m : S6) (v : Int32) : S6_order (S6_set_things m v) = S6_order m := rfl
theorem g_order_noun (m : S6) (v : Nat → Int32) : S6_order (S6_set_noun m v) = S6_order m := rfl
theorem g_order_adjectives (m : S6) (v : Nat → Int32) : S6_order (S6_set_adjectives m v) = S6_order m := rfl
theorem g_order_box (m : S6) (v : Nat → Int32) : S6_order (S6_set_box m v) = S6_order m := rfl
theorem g_order_open (m : S6) (v : Nat → Int32) : S6_order (S6_set_open m v) = S6_order m := rfl
theorem g_order_place (m : S6) (v : Nat → Int32) : S6_order (S6_set_place m v) = S6_order m := rfl
theorem g_order_count (m : S6) (v : Int32) : S6_order (S6_set_count m v) = S6_order m := rfl
theorem g_order_words (m : S6) (v : Nat → Int32) : S6_order (S6_set_words m v) = S6_order m := rfl
theorem g_order_outcome (m : S6) (v : Int32) : S6_order (S6_set_outcome m v) = S6_order m := rfl
theorem g_order_wrongAt (m : S6) (v : Int32) : S6_order (S6_set_wrongAt m v) = S6_order m := rfl
theorem g_order_verb (m : S6) (v : Int32) : S6_order (S6_set_verb m v) = S6_order m := rfl
theorem g_order_meant (m : S6) (v : Int32) : S6_order (S6_set_meant m v) = S6_order m := rfl
theorem g_order_done (m : S6) (v : Int32) : S6_order (S6_set_done m v) = S6_order m := rfl
theorem g_order_into (m : S6) (v : Int32) : S6_order (S6_set_into m v) = S6_order m := rfl
theorem g_order_it (m : S6) (v : Int32) : S6_order (S6_set_it m v) = S6_order m := rfl
theorem g_order_questions (m : S6) (v : Int32) : S6_order (S6_set_questions m v) = S6_order m := rfl
theorem g_order_length (m : S6) (v : Int32) : S6_order (S6_set_length m v) = S6_order m := rfl
theorem g_order_order (m : S6) (v : Nat → Int32) : S6_order (S6_set_order m v) = v := rfl
theorem g_order_answer (m : S6) (v : Nat → Int32) : S6_order (S6_set_answer m v) = S6_order m := rfl
theorem g_order_asked (m : S6) (v : Int32) : S6_order (S6_set_asked m v) = S6_order m := rfl
theorem g_order_askedAt (m : S6) (v : Int32) : S6_order (S6_set_askedAt m v) = S6_order m := rfl
theorem g_order_at (m : S6) (v : Int32) : S6_order (S6_set_at m v) = S6_order m := rfl
theorem g_order_failedAt (m : S6) (v : Int32) : S6_order (S6_set_failedAt m v) = S6_order m := rfl
theorem g_order_choice (m : S6) (v : Int32) : S6_order (S6_set_choice m v) = S6_order m := rfl
theorem g_order_thrown (m : S6) (v : Int32) : S6_order (S6_set_thrown m v) = S6_order m := rfl
theorem g_answer_things (m : S6) (v : Int32) : S6_answer (S6_set_things m v) = S6_answer m := rfl
theorem g_answer_noun (m : S6) (v : Nat → Int32) : S6_answer (S6_set_noun m v) = S6_answer m := rfl
theorem g_answer_adjectives (m : S6) (v : Nat → Int32) : S6_answer (S6_set_adjectives m v) = S6_answer m := rfl
theorem g_answer_box (m : S6) (v : Nat → Int32) : S6_answer (S6_set_box m v) = S6_answer m := rfl
theorem g_answer_open (m : S6) (v : Nat → Int32) : S6_answer (S6_set_open m v) = S6_answer m := rfl
theorem g_answer_place (m : S6) (v : Nat → Int32) : S6_answer (S6_set_place m v) = S6_answer m := rfl
theorem g_answer_count (m : S6) (v : Int32) : S6_answer (S6_set_count m v) = S6_answer m := rfl
theorem g_answer_words (m : S6) (v : Nat → Int32) : S6_answer (S6_set_words m v) = S6_answer m := rfl
theorem g_answer_outcome (m : S6) (v : Int32) : S6_answer (S6_set_outcome m v) = S6_answer m := rfl
theorem g_answer_wrongAt (m : S6) (v : Int32) : S6_answer (S6_set_wrongAt m v) = S6_answer m := rfl
theorem g_answer_verb (m : S6) (v : Int32) : S6_answer (S6_set_verb m v) = S6_answer m := rfl
theorem g_answer_meant (m : S6) (v : Int32) : S6_answer (S6_set_meant m v) = S6_answer m := rfl
theorem g_answer_done (m : S6) (v : Int32) : S6_answer (S6_set_done m v) = S6_answer m := rfl
theorem g_answer_into (m : S6) (v : Int32) : S6_answer (S6_set_into m v) = S6_answer m := rfl
theorem g_answer_it (m : S6) (v : Int32) : S6_answer (S6_set_it m v) = S6_answer m := rfl
theorem g_answer_questions (m : S6) (v : Int32) : S6_answer (S6_set_questions m v) = S6_answer m := rfl
theorem g_answer_length (m : S6) (v : Int32) : S6_answer (S6_set_length m v) = S6_answer m := rfl
theorem g_answer_order (m : S6) (v : Nat → Int32) : S6_answer (S6_set_order m v) = S6_answer m := rfl
theorem g_answer_answer (m : S6) (v : Nat → Int32) : S6_answer (S6_set_answer m v) = v := rfl
theorem g_answer_asked (m : S6) (v : Int32) : S6_answer (S6_set_asked m v) = S6_answer m := rfl
theorem g_answer_askedAt (m : S6) (v : Int32) : S6_answer (S6_set_askedAt m v) = S6_answer m := rfl
theorem g_answer_at (m : S6) (v : Int32) : S6_answer (S6_set_at m v) = S6_answer m := rfl
theorem g_answer_failedAt (m : S6) (v : Int32) : S6_answer (S6_set_failedAt m v) = S6_answer m := rfl
theorem g_answer_choice (m : S6) (v : Int32) : S6_answer (S6_set_choice m v) = S6_answer m := rfl
theorem g_answer_thrown (m : S6) (v : Int32) : S6_answer (S6_set_thrown m v) = S6_answer m := rfl
theorem g_asked_things (m : S6) (v : Int32) : S6_asked (S6_set_things m v) = S6_asked m := rfl
theorem g_asked_noun (m : S6) (v : Nat → Int32) : S6_asked (S6_set_noun m v) = S6_asked m := rfl
theorem g_asked_adjectives (m : S6) (v : Nat → Int32) : S6_asked (S6_set_adjectives m v) = S6_asked m := rfl
theorem g_asked_box (m : S6) (v : Nat → Int32) : S6_asked (S6_set_box m v) = S6_asked m := rfl
theorem g_asked_open (m : S6) (v : Nat → Int32) : S6_asked (S6_set_open m v) = S6_asked m := rfl
theorem g_asked_place (m : S6) (v : Nat → Int32) : S6_asked (S6_set_place m v) = S6_asked m := rfl
theorem g_asked_count (m : S6) (v : Int32) : S6_asked (S6_set_count m v) = S6_asked m := rfl
theorem g_asked_words (m : S6) (v : Nat → Int32) : S6_asked (S6_set_words m v) = S6_asked m := rfl
theorem g_asked_outcome (m : S6) (v : Int32) : S6_asked (S6_set_outcome m v) = S6_asked m := rfl
theorem g_asked_wrongAt (m : S6) (v : Int32) : S6_asked (S6_set_wrongAt m v) = S6_asked m := rfl
theorem g_asked_verb (m : S6) (v : Int32) : S6_asked (S6_set_verb m v) = S6_asked m := rfl
theorem g_asked_meant (m : S6) (v : Int32) : S6_asked (S6_set_meant m v) = S6_asked m := rfl
theorem g_asked_done (m : S6) (v : Int32) : S6_asked (S6_set_done m v) = S6_asked m := rfl
theorem g_asked_into (m : S6) (v : Int32) : S6_asked (S6_set_into m v) = S6_asked m := rfl
theorem g_asked_it (m : S6) (v : Int32) : S6_asked (S6_set_it m v) = S6_asked m := rfl
theorem g_asked_questions (m : S6) (v : Int32) : S6_asked (S6_set_questions m v) = S6_asked m := rfl
theorem g_asked_length (m : S6) (v : Int32) : S6_asked (S6_set_length m v) = S6_asked m := rfl
theorem g_asked_order (m : S6) (v : Nat → Int32) : S6_asked (S6_set_order m v) = S6_asked m := rfl
theorem g_asked_answer (m : S6) (v : Nat → Int32) : S6_asked (S6_set_answer m v) = S6_asked m := rfl
theorem g_asked_asked (m : S6) (v : Int32) : S6_asked (S6_set_asked m v) = v := rfl
theorem g_asked_askedAt (m : S6) (v : Int32) : S6_asked (S6_set_askedAt m v) = S6_asked m := rfl
theorem g_asked_at (m : S6) (v : Int32) : S6_asked (S6_set_at m v) = S6_asked m := rfl
theorem g_asked_failedAt (m : S6) (v : Int32) : S6_asked (S6_set_failedAt m v) = S6_asked m := rfl
theorem g_asked_choice (m : S6) (v : Int32) : S6_asked (S6_set_choice m v) = S6_asked m := rfl
theorem g_asked_thrown (m : S6) (v : Int32) : S6_asked (S6_set_thrown m v) = S6_asked m := rfl
theorem g_askedAt_things (m : S6) (v : Int32) : S6_askedAt (S6_set_things m v) = S6_askedAt m := rfl
theorem g_askedAt_noun (m : S6) (v : Nat → Int32) : S6_askedAt (S6_set_noun m v) = S6_askedAt m := rfl
theorem g_askedAt_adjectives (m : S6) (v : Nat → Int32) : S6_askedAt (S6_set_adjectives m v) = S6_askedAt m := rfl
theorem g_askedAt_box (m : S6) (v : Nat → Int32) : S6_askedAt (S6_set_box m v) = S6_askedAt m := rfl
theorem g_askedAt_open (m : S6) (v : Nat → Int32) : S6_askedAt (S6_set_open m v) = S6_askedAt m := rfl
theorem g_askedAt_place (m : S6) (v : Nat → Int32) : S6_askedAt (S6_set_place m v) = S6_askedAt m := rfl
theorem g_askedAt_count (m : S6) (v : Int32) : S6_askedAt (S6_set_count m v) = S6_askedAt m := rfl
theorem g_askedAt_words (m : S6) (v : Nat → Int32) : S6_askedAt (S6_set_words m v) = S6_askedAt m := rfl
theorem g_askedAt_outcome (m : S6) (v : Int32) : S6_askedAt (S6_set_outcome m v) = S6_askedAt m := rfl
theorem g_askedAt_wrongAt (m : S6) (v : Int32) : S6_askedAt (S6_set_wrongAt m v) = S6_askedAt m := rfl
theorem g_askedAt_verb (m : S6) (v : Int32) : S6_askedAt (S6_set_verb m v) = S6_askedAt m := rfl
theorem g_askedAt_meant (m : S6) (v : Int32) : S6_askedAt (S6_set_meant m v) = S6_askedAt m := rfl
theorem g_askedAt_done (m : S6) (v : Int32) : S6_askedAt (S6_set_done m v) = S6_askedAt m := rfl
theorem g_askedAt_into (m : S6) (v : Int32) : S6_askedAt (S6_set_into m v) = S6_askedAt m := rfl
theorem g_askedAt_it (m : S6) (v : Int32) : S6_askedAt (S6_set_it m v) = S6_askedAt m := rfl
theorem g_askedAt_questions (m : S6) (v : Int32) : S6_askedAt (S6_set_questions m v) = S6_askedAt m := rfl
theorem g_askedAt_length (m : S6) (v : Int32) : S6_askedAt (S6_set_length m v) = S6_askedAt m := rfl
theorem g_askedAt_order (m : S6) (v : Nat → Int32) : S6_askedAt (S6_set_order m v) = S6_askedAt m := rfl
theorem g_askedAt_answer (m : S6) (v : Nat → Int32) : S6_askedAt (S6_set_answer m v) = S6_askedAt m := rfl
theorem g_askedAt_asked (m : S6) (v : Int32) : S6_askedAt (S6_set_asked m v) = S6_askedAt m := rfl
theorem g_askedAt_askedAt (m : S6) (v : Int32) : S6_askedAt (S6_set_askedAt m v) = v := rfl
theorem g_askedAt_at (m : S6) (v : Int32) : S6_askedAt (S6_set_at m v) = S6_askedAt m := rfl
theorem g_askedAt_failedAt (m : S6) (v : Int32) : S6_askedAt (S6_set_failedAt m v) = S6_askedAt m := rfl
theorem g_askedAt_choice (m : S6) (v : Int32) : S6_askedAt (S6_set_choice m v) = S6_askedAt m := rfl
theorem g_askedAt_thrown (m : S6) (v : Int32) : S6_askedAt (S6_set_thrown m v) = S6_askedAt m := rfl
theorem g_at_things (m : S6) (v : Int32) : S6_at (S6_set_things m v) = S6_at m := rfl
theorem g_at_noun (m : S6) (v : Nat → Int32) : S6_at (S6_set_noun m v) = S6_at m := rfl
theorem g_at_adjectives (m : S6) (v : Nat → Int32) : S6_at (S6_set_adjectives m v) = S6_at m := rfl
theorem g_at_box (m : S6) (v : Nat → Int32) : S6_at (S6_set_box m v) = S6_at m := rfl
theorem g_at_open (m : S6) (v : Nat → Int32) : S6_at (S6_set_open m v) = S6_at m := rfl
theorem g_at_place (m : S6) (v : Nat → Int32) : S6_at (S6_set_place m v) = S6_at m := rfl
theorem g_at_count (m : S6) (v : Int32) : S6_at (S6_set_count m v) = S6_at m := rfl
theorem g_at_words (m : S6) (v : Nat → Int32) : S6_at (S6_set_words m v) = S6_at m := rfl
theorem g_at_outcome (m : S6) (v : Int32) : S6_at (S6_set_outcome m v) = S6_at m := rfl
theorem g_at_wrongAt (m : S6) (v : Int32) : S6_at (S6_set_wrongAt m v) = S6_at m := rfl
theorem g_at_verb (m : S6) (v : Int32) : S6_at (S6_set_verb m v) = S6_at m := rfl
theorem g_at_meant (m : S6) (v : Int32) : S6_at (S6_set_meant m v) = S6_at m := rfl
theorem g_at_done (m : S6) (v : Int32) : S6_at (S6_set_done m v) = S6_at m := rfl
theorem g_at_into (m : S6) (v : Int32) : S6_at (S6_set_into m v) = S6_at m := rfl
theorem g_at_it (m : S6) (v : Int32) : S6_at (S6_set_it m v) = S6_at m := rfl
theorem g_at_questions (m : S6) (v : Int32) : S6_at (S6_set_questions m v) = S6_at m := rfl
theorem g_at_length (m : S6) (v : Int32) : S6_at (S6_set_length m v) = S6_at m := rfl
theorem g_at_order (m : S6) (v : Nat → Int32) : S6_at (S6_set_order m v) = S6_at m := rfl
theorem g_at_answer (m : S6) (v : Nat → Int32) : S6_at (S6_set_answer m v) = S6_at m := rfl
theorem g_at_asked (m : S6) (v : Int32) : S6_at (S6_set_asked m v) = S6_at m := rfl
theorem g_at_askedAt (m : S6) (v : Int32) : S6_at (S6_set_askedAt m v) = S6_at m := rfl
theorem g_at_at (m : S6) (v : Int32) : S6_at (S6_set_at m v) = v := rfl
theorem g_at_failedAt (m : S6) (v : Int32) : S6_at (S6_set_failedAt m v) = S6_at m := rfl
theorem g_at_choice (m : S6) (v : Int32) : S6_at (S6_set_choice m v) = S6_at m := rfl
theorem g_at_thrown (m : S6) (v : Int32) : S6_at (S6_set_thrown m v) = S6_at m := rfl
theorem g_failedAt_things (m : S6) (v : Int32) : S6_failedAt (S6_set_things m v) = S6_failedAt m := rfl
theorem g_failedAt_noun (m : S6) (v : Nat → Int32) : S6_failedAt (S6_set_noun m v) = S6_failedAt m := rfl
theorem g_failedAt_adjectives (m : S6) (v : Nat → Int32) : S6_failedAt (S6_set_adjectives m v) = S6_failedAt m := rfl
theorem g_failedAt_box (m : S6) (v : Nat → Int32) : S6_failedAt (S6_set_box m v) = S6_failedAt m := rfl
theorem g_failedAt_open (m : S6) (v : Nat → Int32) : S6_failedAt (S6_set_open m v) = S6_failedAt m := rfl
theorem g_failedAt_place (m : S6) (v : Nat → Int32) : S6_failedAt (S6_set_place m v) = S6_failedAt m := rfl
theorem g_failedAt_count (m : S6) (v : Int32) : S6_failedAt (S6_set_count m v) = S6_failedAt m := rfl
theorem g_failedAt_words (m : S6) (v : Nat → Int32) : S6_failedAt (S6_set_words m v) = S6_failedAt m := rfl
theorem g_failedAt_outcome (m : S6) (v : Int32) : S6_failedAt (S6_set_outcome m v) = S6_failedAt m := rfl
theorem g_failedAt_wrongAt (m : S6) (v : Int32) : S6_failedAt (S6_set_wrongAt m v) = S6_failedAt m := rfl
theorem g_failedAt_verb (m : S6) (v : Int32) : S6_failedAt (S6_set_verb m v) = S6_failedAt m := rfl
theorem g_failedAt_meant (m : S6) (v : Int32) : S6_failedAt (S6_set_meant m v) = S6_failedAt m := rfl
theorem g_failedAt_done (m : S6) (v : Int32) : S6_failedAt (S6_set_done m v) = S6_failedAt m := rfl
theorem g_failedAt_into (m : S6) (v : Int32) : S6_failedAt (S6_set_into m v) = S6_failedAt m := rfl
theorem g_failedAt_it (m : S6) (v : Int32) : S6_failedAt (S6_set_it m v) = S6_failedAt m := rfl
theorem g_failedAt_questions (m : S6) (v : Int32) : S6_failedAt (S6_set_questions m v) = S6_failedAt m := rfl
theorem g_failedAt_length (m : S6) (v : Int32) : S6_failedAt (S6_set_length m v) = S6_failedAt m := rfl
theorem g_failedAt_order (m : S6) (v : Nat → Int32) : S6_failedAt (S6_set_order m v) = S6_failedAt m := rfl
theorem g_failedAt_answer (m : S6) (v : Nat → Int32) : S6_failedAt (S6_set_answer m v) = S6_failedAt m := rfl
theorem g_failedAt_asked (m : S6) (v : Int32) : S6_failedAt (S6_set_asked m v) = S6_failedAt m := rfl
theorem g_failedAt_askedAt (m : S6) (v : Int32) : S6_failedAt (S6_set_askedAt m v) = S6_failedAt m := rfl
theorem g_failedAt_at (m : S6) (v : Int32) : S6_failedAt (S6_set_at m v) = S6_failedAt m := rfl
theorem g_failedAt_failedAt (m : S6) (v : Int32) : S6_failedAt (S6_set_failedAt m v) = v := rfl
theorem g_failedAt_choice (m : S6) (v : Int32) : S6_failedAt (S6_set_choice m v) = S6_failedAt m := rfl
theorem g_failedAt_thrown (m : S6) (v : Int32) : S6_failedAt (S6_set_thrown m v) = S6_failedAt m := rfl
theorem g_choice_things (m : S6) (v : Int32) : S6_choice (S6_set_things m v) = S6_choice m := rfl
theorem g_choice_noun (m : S6) (v : Nat → Int32) : S6_choice (S6_set_noun m v) = S6_choice m := rfl
theorem g_choice_adjectives (m : S6) (v : Nat → Int32) : S6_choice (S6_set_adjectives m v) = S6_choice m := rfl
theorem g_choice_box (m : S6) (v : Nat → Int32) : S6_choice (S6_set_box m v) = S6_choice m := rfl
theorem g_choice_open (m : S6) (v : Nat → Int32) : S6_choice (S6_set_open m v) = S6_choice m := rfl
theorem g_choice_place (m : S6) (v : Nat → Int32) : S6_choice (S6_set_place m v) = S6_choice m := rfl
theorem g_choice_count (m : S6) (v : Int32) : S6_choice (S6_set_count m v) = S6_choice m := rfl
theorem g_choice_words (m : S6) (v : Nat → Int32) : S6_choice (S6_set_words m v) = S6_choice m := rfl
theorem g_choice_outcome (m : S6) (v : Int32) : S6_choice (S6_set_outcome m v) = S6_choice m := rfl
theorem g_choice_wrongAt (m : S6) (v : Int32) : S6_choice (S6_set_wrongAt m v) = S6_choice m := rfl
theorem g_choice_verb (m : S6) (v : Int32) : S6_choice (S6_set_verb m v) = S6_choice m := rfl
theorem g_choice_meant (m : S6) (v : Int32) : S6_choice (S6_set_meant m v) = S6_choice m := rfl
theorem g_choice_done (m : S6) (v : Int32) : S6_choice (S6_set_done m v) = S6_choice m := rfl
theorem g_choice_into (m : S6) (v : Int32) : S6_choice (S6_set_into m v) = S6_choice m := rfl
theorem g_choice_it (m : S6) (v : Int32) : S6_choice (S6_set_it m v) = S6_choice m := rfl
theorem g_choice_questions (m : S6) (v : Int32) : S6_choice (S6_set_questions m v) = S6_choice m := rfl
theorem g_choice_length (m : S6) (v : Int32) : S6_choice (S6_set_length m v) = S6_choice m := rfl
theorem g_choice_order (m : S6) (v : Nat → Int32) : S6_choice (S6_set_order m v) = S6_choice m := rfl
theorem g_choice_answer (m : S6) (v : Nat → Int32) : S6_choice (S6_set_answer m v) = S6_choice m := rfl
theorem g_choice_asked (m : S6) (v : Int32) : S6_choice (S6_set_asked m v) = S6_choice m := rfl
theorem g_choice_askedAt (m : S6) (v : Int32) : S6_choice (S6_set_askedAt m v) = S6_choice m := rfl
theorem g_choice_at (m : S6) (v : Int32) : S6_choice (S6_set_at m v) = S6_choice m := rfl
theorem g_choice_failedAt (m : S6) (v : Int32) : S6_choice (S6_set_failedAt m v) = S6_choice m := rfl
theorem g_choice_choice (m : S6) (v : Int32) : S6_choice (S6_set_choice m v) = v := rfl
theorem g_choice_thrown (m : S6) (v : Int32) : S6_choice (S6_set_thrown m v) = S6_choice m := rfl
theorem g_thrown_things (m : S6) (v : Int32) : S6_thrown (S6_set_things m v) = S6_thrown m := rfl
theorem g_thrown_noun (m : S6) (v : Nat → Int32) : S6_thrown (S6_set_noun m v) = S6_thrown m := rfl
theorem g_thrown_adjectives (m : S6) (v : Nat → Int32) : S6_thrown (S6_set_adjectives m v) = S6_thrown m := rfl
theorem g_thrown_box (m : S6) (v : Nat → Int32) : S6_thrown (S6_set_box m v) = S6_thrown m := rfl
theorem g_thrown_open (m : S6) (v : Nat → Int32) : S6_thrown (S6_set_open m v) = S6_thrown m := rfl
theorem g_thrown_place (m : S6) (v : Nat → Int32) : S6_thrown (S6_set_place m v) = S6_thrown m := rfl
theorem g_thrown_count (m : S6) (v : Int32) : S6_thrown (S6_set_count m v) = S6_thrown m := rfl
theorem g_thrown_words (m : S6) (v : Nat → Int32) : S6_thrown (S6_set_words m v) = S6_thrown m := rfl
theorem g_thrown_outcome (m : S6) (v : Int32) : S6_thrown (S6_set_outcome m v) = S6_thrown m := rfl
theorem g_thrown_wrongAt (m : S6) (v : Int32) : S6_thrown (S6_set_wrongAt m v) = S6_thrown m := rfl
theorem g_thrown_verb (m : S6) (v : Int32) : S6_thrown (S6_set_verb m v) = S6_thrown m := rfl
theorem g_thrown_meant (m : S6) (v : Int32) : S6_thrown (S6_set_meant m v) = S6_thrown m := rfl
theorem g_thrown_done (m : S6) (v : Int32) : S6_thrown (S6_set_done m v) = S6_thrown m := rfl
theorem g_thrown_into (m : S6) (v : Int32) : S6_thrown (S6_set_into m v) = S6_thrown m := rfl
theorem g_thrown_it (m : S6) (v : Int32) : S6_thrown (S6_set_it m v) = S6_thrown m := rfl
theorem g_thrown_questions (m : S6) (v : Int32) : S6_thrown (S6_set_questions m v) = S6_thrown m := rfl
theorem g_thrown_length (m : S6) (v : Int32) : S6_thrown (S6_set_length m v) = S6_thrown m := rfl
theorem g_thrown_order (m : S6) (v : Nat → Int32) : S6_thrown (S6_set_order m v) = S6_thrown m := rfl
theorem g_thrown_answer (m : S6) (v : Nat → Int32) : S6_thrown (S6_set_answer m v) = S6_thrown m := rfl
theorem g_thrown_asked (m : S6) (v : Int32) : S6_thrown (S6_set_asked m v) = S6_thrown m := rfl
theorem g_thrown_askedAt (m : S6) (v : Int32) : S6_thrown (S6_set_askedAt m v) = S6_thrown m := rfl
theorem g_thrown_at (m : S6) (v : Int32) : S6_thrown (S6_set_at m v) = S6_thrown m := rfl
theorem g_thrown_failedAt (m : S6) (v : Int32) : S6_thrown (S6_set_failedAt m v) = S6_thrown m := rfl
theorem g_thrown_choice (m : S6) (v : Int32) : S6_thrown (S6_set_choice m v) = S6_thrown m := rfl
theorem g_thrown_thrown (m : S6) (v : Int32) : S6_thrown (S6_set_thrown m v) = v := rfl
theorem MI_count {m : S6} {s : S4} {n kb ko : Nat} (J : MI m s n kb ko) (v : Int32) : MI (S6_set_count m v) s n kb ko := J
theorem MI_words {m : S6} {s : S4} {n kb ko : Nat} (J : MI m s n kb ko) (v : Nat → Int32) : MI (S6_set_words m v) s n kb ko := J
theorem MI_outcome {m : S6} {s : S4} {n kb ko : Nat} (J : MI m s n kb ko) (v : Int32) : MI (S6_set_outcome m v) s n kb ko := J
theorem MI_wrongAt {m : S6} {s : S4} {n kb ko : Nat} (J : MI m s n kb ko) (v : Int32) : MI (S6_set_wrongAt m v) s n kb ko := J
theorem MI_verb {m : S6} {s : S4} {n kb ko : Nat} (J : MI m s n kb ko) (v : Int32) : MI (S6_set_verb m v) s n kb ko := J
theorem MI_meant {m : S6} {s : S4} {n kb ko : Nat} (J : MI m s n kb ko) (v : Int32) : MI (S6_set_meant m v) s n kb ko := J
theorem MI_done {m : S6} {s : S4} {n kb ko : Nat} (J : MI m s n kb ko) (v : Int32) : MI (S6_set_done m v) s n kb ko := J
theorem MI_into {m : S6} {s : S4} {n kb ko : Nat} (J : MI m s n kb ko) (v : Int32) : MI (S6_set_into m v) s n kb ko := J
theorem MI_it {m : S6} {s : S4} {n kb ko : Nat} (J : MI m s n kb ko) (v : Int32) : MI (S6_set_it m v) s n kb ko := J
theorem MI_questions {m : S6} {s : S4} {n kb ko : Nat} (J : MI m s n kb ko) (v : Int32) : MI (S6_set_questions m v) s n kb ko := J
theorem MI_length {m : S6} {s : S4} {n kb ko : Nat} (J : MI m s n kb ko) (v : Int32) : MI (S6_set_length m v) s n kb ko := J
theorem MI_order {m : S6} {s : S4} {n kb ko : Nat} (J : MI m s n kb ko) (v : Nat → Int32) : MI (S6_set_order m v) s n kb ko := J
theorem MI_answer {m : S6} {s : S4} {n kb ko : Nat} (J : MI m s n kb ko) (v : Nat → Int32) : MI (S6_set_answer m v) s n kb ko := J
theorem MI_asked {m : S6} {s : S4} {n kb ko : Nat} (J : MI m s n kb ko) (v : Int32) : MI (S6_set_asked m v) s n kb ko := J
theorem MI_askedAt {m : S6} {s : S4} {n kb ko : Nat} (J : MI m s n kb ko) (v : Int32) : MI (S6_set_askedAt m v) s n kb ko := J
theorem MI_at {m : S6} {s : S4} {n kb ko : Nat} (J : MI m s n kb ko) (v : Int32) : MI (S6_set_at m v) s n kb ko := J
theorem MI_failedAt {m : S6} {s : S4} {n kb ko : Nat} (J : MI m s n kb ko) (v : Int32) : MI (S6_set_failedAt m v) s n kb ko := J
theorem MI_choice {m : S6} {s : S4} {n kb ko : Nat} (J : MI m s n kb ko) (v : Int32) : MI (S6_set_choice m v) s n kb ko := J
theorem MI_thrown {m : S6} {s : S4} {n kb ko : Nat} (J : MI m s n kb ko) (v : Int32) : MI (S6_set_thrown m v) s n kb ko := J
