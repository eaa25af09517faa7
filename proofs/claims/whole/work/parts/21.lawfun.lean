abbrev SO : Type := Nat → Int64
abbrev cf_0123456O (cI cZ cJ : ClassId) (h0 h1 h2 h2a2 h2a3 h2a4 h2a5 h2a6 h2a7 h3 h3a0 h4 h4a0 h4a1 h4a2 h5 h6 h6a1 h6a2 h6a3 h6a4 h6a5 h6a7 h6a17 h6a18 hO : Nat) (s0 : S0) (s1 : S1) (s2 : S2) (s3 : S3) (s4 : S4) (s5 : S5) (s6 : S6) (sO : SO) : va_W := [(h0, .inr (0, [.ref h4, .ref h2, .ref h1, .int (S0_reach s0), .int (S0_result s0), .int (S0_group s0), .int (S0_target s0), .int (S0_openPhrase s0), .int (S0_choice s0)])), (h1, .inr (1, [.int (S1_lastVerb s1), .int (S1_lastMeant s1), .int (S1_lastDone s1), .int (S1_lastTarget s1), .int (S1_lastAlone s1)])), (h2, .inr (2, [.int (S2_orderVerb s2), .int (S2_count s2), .ref h2a2, .ref h2a3, .ref h2a4, .ref h2a5, .ref h2a6, .ref h2a7])), (h2a2, .inl (cI, 24, .inl (S2_roles s2))), (h2a3, .inl (cI, 24, .inl (S2_kinds s2))), (h2a4, .inl (cI, 24, .inl (S2_adjectiveSets s2))), (h2a5, .inl (cI, 24, .inl (S2_nouns s2))), (h2a6, .inl (cI, 24, .inl (S2_lastPlaces s2))), (h2a7, .inl (cI, 24, .inl (S2_answers s2))), (h3, .inr (3, [.ref h3a0, .int (S3_count s3), .int (S3_place s3), .int (S3_adjectives s3), .int (S3_noun s3)])), (h3a0, .inl (cI, 24, .inl (S3_given s3))), (h4, .inr (4, [.ref h4a0, .ref h4a1, .ref h4a2, .int (S4_count s4), .int (S4_boxes s4), .int (S4_openBoxes s4)])), (h4a0, .inl (cI, 12, .inl (S4_nouns s4))), (h4a1, .inl (cI, 12, .inl (S4_adjectiveSets s4))), (h4a2, .inl (cI, 12, .inl (S4_holders s4))), (h5, .inr (5, [.ref h4, .ref h3, .ref h2, .ref h1, .ref h0, .int (S5_lastOutcome s5), .int (S5_wrongPlace s5), .int (S5_askedThings s5), .int (S5_askedPhrase s5), .int (S5_questionCount s5)])), (h6, .inr (6, [.int (S6_things s6), .ref h6a1, .ref h6a2, .ref h6a3, .ref h6a4, .ref h6a5, .int (S6_count s6), .ref h6a7, .int (S6_outcome s6), .int (S6_wrongAt s6), .int (S6_verb s6), .int (S6_meant s6), .int (S6_done s6), .int (S6_into s6), .int (S6_it s6), .int (S6_questions s6), .int (S6_length s6), .ref h6a17, .ref h6a18, .int (S6_asked s6), .int (S6_askedAt s6), .int (S6_at s6), .int (S6_failedAt s6), .int (S6_choice s6), .int (S6_thrown s6)])), (h6a1, .inl (cI, 12, .inl (S6_noun s6))), (h6a2, .inl (cI, 12, .inl (S6_adjectives s6))), (h6a3, .inl (cZ, 12, .inl (S6_box s6))), (h6a4, .inl (cZ, 12, .inl (S6_open s6))), (h6a5, .inl (cI, 12, .inl (S6_place s6))), (h6a7, .inl (cI, 24, .inl (S6_words s6))), (h6a17, .inl (cI, 24, .inl (S6_order s6))), (h6a18, .inl (cI, 24, .inl (S6_answer s6))), (hO, .inl (cJ, 1, .inr (.inl sO)))]
abbrev cf_012345O (cI cJ : ClassId) (h0 h1 h2 h2a2 h2a3 h2a4 h2a5 h2a6 h2a7 h3 h3a0 h4 h4a0 h4a1 h4a2 h5 hO : Nat) (s0 : S0) (s1 : S1) (s2 : S2) (s3 : S3) (s4 : S4) (s5 : S5) (sO : SO) : va_W := [(h0, .inr (0, [.ref h4, .ref h2, .ref h1, .int (S0_reach s0), .int (S0_result s0), .int (S0_group s0), .int (S0_target s0), .int (S0_openPhrase s0), .int (S0_choice s0)])), (h1, .inr (1, [.int (S1_lastVerb s1), .int (S1_lastMeant s1), .int (S1_lastDone s1), .int (S1_lastTarget s1), .int (S1_lastAlone s1)])), (h2, .inr (2, [.int (S2_orderVerb s2), .int (S2_count s2), .ref h2a2, .ref h2a3, .ref h2a4, .ref h2a5, .ref h2a6, .ref h2a7])), (h2a2, .inl (cI, 24, .inl (S2_roles s2))), (h2a3, .inl (cI, 24, .inl (S2_kinds s2))), (h2a4, .inl (cI, 24, .inl (S2_adjectiveSets s2))), (h2a5, .inl (cI, 24, .inl (S2_nouns s2))), (h2a6, .inl (cI, 24, .inl (S2_lastPlaces s2))), (h2a7, .inl (cI, 24, .inl (S2_answers s2))), (h3, .inr (3, [.ref h3a0, .int (S3_count s3), .int (S3_place s3), .int (S3_adjectives s3), .int (S3_noun s3)])), (h3a0, .inl (cI, 24, .inl (S3_given s3))), (h4, .inr (4, [.ref h4a0, .ref h4a1, .ref h4a2, .int (S4_count s4), .int (S4_boxes s4), .int (S4_openBoxes s4)])), (h4a0, .inl (cI, 12, .inl (S4_nouns s4))), (h4a1, .inl (cI, 12, .inl (S4_adjectiveSets s4))), (h4a2, .inl (cI, 12, .inl (S4_holders s4))), (h5, .inr (5, [.ref h4, .ref h3, .ref h2, .ref h1, .ref h0, .int (S5_lastOutcome s5), .int (S5_wrongPlace s5), .int (S5_askedThings s5), .int (S5_askedPhrase s5), .int (S5_questionCount s5)])), (hO, .inl (cJ, 1, .inr (.inl sO)))]
abbrev cf_01236 (cI cZ : ClassId) (h0 h1 h2 h2a2 h2a3 h2a4 h2a5 h2a6 h2a7 h3 h3a0 h6 h6a1 h6a2 h6a3 h6a4 h6a5 h6a7 h6a17 h6a18 h4 : Nat) (s0 : S0) (s1 : S1) (s2 : S2) (s3 : S3) (s6 : S6) : va_W := [(h0, .inr (0, [.ref h4, .ref h2, .ref h1, .int (S0_reach s0), .int (S0_result s0), .int (S0_group s0), .int (S0_target s0), .int (S0_openPhrase s0), .int (S0_choice s0)])), (h1, .inr (1, [.int (S1_lastVerb s1), .int (S1_lastMeant s1), .int (S1_lastDone s1), .int (S1_lastTarget s1), .int (S1_lastAlone s1)])), (h2, .inr (2, [.int (S2_orderVerb s2), .int (S2_count s2), .ref h2a2, .ref h2a3, .ref h2a4, .ref h2a5, .ref h2a6, .ref h2a7])), (h2a2, .inl (cI, 24, .inl (S2_roles s2))), (h2a3, .inl (cI, 24, .inl (S2_kinds s2))), (h2a4, .inl (cI, 24, .inl (S2_adjectiveSets s2))), (h2a5, .inl (cI, 24, .inl (S2_nouns s2))), (h2a6, .inl (cI, 24, .inl (S2_lastPlaces s2))), (h2a7, .inl (cI, 24, .inl (S2_answers s2))), (h3, .inr (3, [.ref h3a0, .int (S3_count s3), .int (S3_place s3), .int (S3_adjectives s3), .int (S3_noun s3)])), (h3a0, .inl (cI, 24, .inl (S3_given s3))), (h6, .inr (6, [.int (S6_things s6), .ref h6a1, .ref h6a2, .ref h6a3, .ref h6a4, .ref h6a5, .int (S6_count s6), .ref h6a7, .int (S6_outcome s6), .int (S6_wrongAt s6), .int (S6_verb s6), .int (S6_meant s6), .int (S6_done s6), .int (S6_into s6), .int (S6_it s6), .int (S6_questions s6), .int (S6_length s6), .ref h6a17, .ref h6a18, .int (S6_asked s6), .int (S6_askedAt s6), .int (S6_at s6), .int (S6_failedAt s6), .int (S6_choice s6), .int (S6_thrown s6)])), (h6a1, .inl (cI, 12, .inl (S6_noun s6))), (h6a2, .inl (cI, 12, .inl (S6_adjectives s6))), (h6a3, .inl (cZ, 12, .inl (S6_box s6))), (h6a4, .inl (cZ, 12, .inl (S6_open s6))), (h6a5, .inl (cI, 12, .inl (S6_place s6))), (h6a7, .inl (cI, 24, .inl (S6_words s6))), (h6a17, .inl (cI, 24, .inl (S6_order s6))), (h6a18, .inl (cI, 24, .inl (S6_answer s6)))]
abbrev cf_01236O (cI cZ cJ : ClassId) (h0 h1 h2 h2a2 h2a3 h2a4 h2a5 h2a6 h2a7 h3 h3a0 h6 h6a1 h6a2 h6a3 h6a4 h6a5 h6a7 h6a17 h6a18 hO h4 : Nat) (s0 : S0) (s1 : S1) (s2 : S2) (s3 : S3) (s6 : S6) (sO : SO) : va_W := [(h0, .inr (0, [.ref h4, .ref h2, .ref h1, .int (S0_reach s0), .int (S0_result s0), .int (S0_group s0), .int (S0_target s0), .int (S0_openPhrase s0), .int (S0_choice s0)])), (h1, .inr (1, [.int (S1_lastVerb s1), .int (S1_lastMeant s1), .int (S1_lastDone s1), .int (S1_lastTarget s1), .int (S1_lastAlone s1)])), (h2, .inr (2, [.int (S2_orderVerb s2), .int (S2_count s2), .ref h2a2, .ref h2a3, .ref h2a4, .ref h2a5, .ref h2a6, .ref h2a7])), (h2a2, .inl (cI, 24, .inl (S2_roles s2))), (h2a3, .inl (cI, 24, .inl (S2_kinds s2))), (h2a4, .inl (cI, 24, .inl (S2_adjectiveSets s2))), (h2a5, .inl (cI, 24, .inl (S2_nouns s2))), (h2a6, .inl (cI, 24, .inl (S2_lastPlaces s2))), (h2a7, .inl (cI, 24, .inl (S2_answers s2))), (h3, .inr (3, [.ref h3a0, .int (S3_count s3), .int (S3_place s3), .int (S3_adjectives s3), .int (S3_noun s3)])), (h3a0, .inl (cI, 24, .inl (S3_given s3))), (h6, .inr (6, [.int (S6_things s6), .ref h6a1, .ref h6a2, .ref h6a3, .ref h6a4, .ref h6a5, .int (S6_count s6), .ref h6a7, .int (S6_outcome s6), .int (S6_wrongAt s6), .int (S6_verb s6), .int (S6_meant s6), .int (S6_done s6), .int (S6_into s6), .int (S6_it s6), .int (S6_questions s6), .int (S6_length s6), .ref h6a17, .ref h6a18, .int (S6_asked s6), .int (S6_askedAt s6), .int (S6_at s6), .int (S6_failedAt s6), .int (S6_choice s6), .int (S6_thrown s6)])), (h6a1, .inl (cI, 12, .inl (S6_noun s6))), (h6a2, .inl (cI, 12, .inl (S6_adjectives s6))), (h6a3, .inl (cZ, 12, .inl (S6_box s6))), (h6a4, .inl (cZ, 12, .inl (S6_open s6))), (h6a5, .inl (cI, 12, .inl (S6_place s6))), (h6a7, .inl (cI, 24, .inl (S6_words s6))), (h6a17, .inl (cI, 24, .inl (S6_order s6))), (h6a18, .inl (cI, 24, .inl (S6_answer s6))), (hO, .inl (cJ, 1, .inr (.inl sO)))]
abbrev cf_01246 (cI cZ : ClassId) (h0 h1 h2 h2a2 h2a3 h2a4 h2a5 h2a6 h2a7 h4 h4a0 h4a1 h4a2 h6 h6a1 h6a2 h6a3 h6a4 h6a5 h6a7 h6a17 h6a18 : Nat) (s0 : S0) (s1 : S1) (s2 : S2) (s4 : S4) (s6 : S6) : va_W := [(h0, .inr (0, [.ref h4, .ref h2, .ref h1, .int (S0_reach s0), .int (S0_result s0), .int (S0_group s0), .int (S0_target s0), .int (S0_openPhrase s0), .int (S0_choice s0)])), (h1, .inr (1, [.int (S1_lastVerb s1), .int (S1_lastMeant s1), .int (S1_lastDone s1), .int (S1_lastTarget s1), .int (S1_lastAlone s1)])), (h2, .inr (2, [.int (S2_orderVerb s2), .int (S2_count s2), .ref h2a2, .ref h2a3, .ref h2a4, .ref h2a5, .ref h2a6, .ref h2a7])), (h2a2, .inl (cI, 24, .inl (S2_roles s2))), (h2a3, .inl (cI, 24, .inl (S2_kinds s2))), (h2a4, .inl (cI, 24, .inl (S2_adjectiveSets s2))), (h2a5, .inl (cI, 24, .inl (S2_nouns s2))), (h2a6, .inl (cI, 24, .inl (S2_lastPlaces s2))), (h2a7, .inl (cI, 24, .inl (S2_answers s2))), (h4, .inr (4, [.ref h4a0, .ref h4a1, .ref h4a2, .int (S4_count s4), .int (S4_boxes s4), .int (S4_openBoxes s4)])), (h4a0, .inl (cI, 12, .inl (S4_nouns s4))), (h4a1, .inl (cI, 12, .inl (S4_adjectiveSets s4))), (h4a2, .inl (cI, 12, .inl (S4_holders s4))), (h6, .inr (6, [.int (S6_things s6), .ref h6a1, .ref h6a2, .ref h6a3, .ref h6a4, .ref h6a5, .int (S6_count s6), .ref h6a7, .int (S6_outcome s6), .int (S6_wrongAt s6), .int (S6_verb s6), .int (S6_meant s6), .int (S6_done s6), .int (S6_into s6), .int (S6_it s6), .int (S6_questions s6), .int (S6_length s6), .ref h6a17, .ref h6a18, .int (S6_asked s6), .int (S6_askedAt s6), .int (S6_at s6), .int (S6_failedAt s6), .int (S6_choice s6), .int (S6_thrown s6)])), (h6a1, .inl (cI, 12, .inl (S6_noun s6))), (h6a2, .inl (cI, 12, .inl (S6_adjectives s6))), (h6a3, .inl (cZ, 12, .inl (S6_box s6))), (h6a4, .inl (cZ, 12, .inl (S6_open s6))), (h6a5, .inl (cI, 12, .inl (S6_place s6))), (h6a7, .inl (cI, 24, .inl (S6_words s6))), (h6a17, .inl (cI, 24, .inl (S6_order s6))), (h6a18, .inl (cI, 24, .inl (S6_answer s6)))]
abbrev cf_6O (cI cZ cJ : ClassId) (h6 h6a1 h6a2 h6a3 h6a4 h6a5 h6a7 h6a17 h6a18 hO : Nat) (s6 : S6) (sO : SO) : va_W := [(h6, .inr (6, [.int (S6_things s6), .ref h6a1, .ref h6a2, .ref h6a3, .ref h6a4, .ref h6a5, .int (S6_count s6), .ref h6a7, .int (S6_outcome s6), .int (S6_wrongAt s6), .int (S6_verb s6), .int (S6_meant s6), .int (S6_done s6), .int (S6_into s6), .int (S6_it s6), .int (S6_questions s6), .int (S6_length s6), .ref h6a17, .ref h6a18, .int (S6_asked s6), .int (S6_askedAt s6), .int (S6_at s6), .int (S6_failedAt s6), .int (S6_choice s6), .int (S6_thrown s6)])), (h6a1, .inl (cI, 12, .inl (S6_noun s6))), (h6a2, .inl (cI, 12, .inl (S6_adjectives s6))), (h6a3, .inl (cZ, 12, .inl (S6_box s6))), (h6a4, .inl (cZ, 12, .inl (S6_open s6))), (h6a5, .inl (cI, 12, .inl (S6_place s6))), (h6a7, .inl (cI, 24, .inl (S6_words s6))), (h6a17, .inl (cI, 24, .inl (S6_order s6))), (h6a18, .inl (cI, 24, .inl (S6_answer s6))), (hO, .inl (cJ, 1, .inr (.inl sO)))]
abbrev cf_012346O (cI cZ cJ : ClassId) (h0 h1 h2 h2a2 h2a3 h2a4 h2a5 h2a6 h2a7 h3 h3a0 h4 h4a0 h4a1 h4a2 h6 h6a1 h6a2 h6a3 h6a4 h6a5 h6a7 h6a17 h6a18 hO : Nat) (s0 : S0) (s1 : S1) (s2 : S2) (s3 : S3) (s4 : S4) (s6 : S6) (sO : SO) : va_W := [(h0, .inr (0, [.ref h4, .ref h2, .ref h1, .int (S0_reach s0), .int (S0_result s0), .int (S0_group s0), .int (S0_target s0), .int (S0_openPhrase s0), .int (S0_choice s0)])), (h1, .inr (1, [.int (S1_lastVerb s1), .int (S1_lastMeant s1), .int (S1_lastDone s1), .int (S1_lastTarget s1), .int (S1_lastAlone s1)])), (h2, .inr (2, [.int (S2_orderVerb s2), .int (S2_count s2), .ref h2a2, .ref h2a3, .ref h2a4, .ref h2a5, .ref h2a6, .ref h2a7])), (h2a2, .inl (cI, 24, .inl (S2_roles s2))), (h2a3, .inl (cI, 24, .inl (S2_kinds s2))), (h2a4, .inl (cI, 24, .inl (S2_adjectiveSets s2))), (h2a5, .inl (cI, 24, .inl (S2_nouns s2))), (h2a6, .inl (cI, 24, .inl (S2_lastPlaces s2))), (h2a7, .inl (cI, 24, .inl (S2_answers s2))), (h3, .inr (3, [.ref h3a0, .int (S3_count s3), .int (S3_place s3), .int (S3_adjectives s3), .int (S3_noun s3)])), (h3a0, .inl (cI, 24, .inl (S3_given s3))), (h4, .inr (4, [.ref h4a0, .ref h4a1, .ref h4a2, .int (S4_count s4), .int (S4_boxes s4), .int (S4_openBoxes s4)])), (h4a0, .inl (cI, 12, .inl (S4_nouns s4))), (h4a1, .inl (cI, 12, .inl (S4_adjectiveSets s4))), (h4a2, .inl (cI, 12, .inl (S4_holders s4))), (h6, .inr (6, [.int (S6_things s6), .ref h6a1, .ref h6a2, .ref h6a3, .ref h6a4, .ref h6a5, .int (S6_count s6), .ref h6a7, .int (S6_outcome s6), .int (S6_wrongAt s6), .int (S6_verb s6), .int (S6_meant s6), .int (S6_done s6), .int (S6_into s6), .int (S6_it s6), .int (S6_questions s6), .int (S6_length s6), .ref h6a17, .ref h6a18, .int (S6_asked s6), .int (S6_askedAt s6), .int (S6_at s6), .int (S6_failedAt s6), .int (S6_choice s6), .int (S6_thrown s6)])), (h6a1, .inl (cI, 12, .inl (S6_noun s6))), (h6a2, .inl (cI, 12, .inl (S6_adjectives s6))), (h6a3, .inl (cZ, 12, .inl (S6_box s6))), (h6a4, .inl (cZ, 12, .inl (S6_open s6))), (h6a5, .inl (cI, 12, .inl (S6_place s6))), (h6a7, .inl (cI, 24, .inl (S6_words s6))), (h6a17, .inl (cI, 24, .inl (S6_order s6))), (h6a18, .inl (cI, 24, .inl (S6_answer s6))), (hO, .inl (cJ, 1, .inr (.inl sO)))]
abbrev cf_02346O (cI cZ cJ : ClassId) (h0 h2 h2a2 h2a3 h2a4 h2a5 h2a6 h2a7 h3 h3a0 h4 h4a0 h4a1 h4a2 h6 h6a1 h6a2 h6a3 h6a4 h6a5 h6a7 h6a17 h6a18 hO h1 : Nat) (s0 : S0) (s2 : S2) (s3 : S3) (s4 : S4) (s6 : S6) (sO : SO) : va_W := [(h0, .inr (0, [.ref h4, .ref h2, .ref h1, .int (S0_reach s0), .int (S0_result s0), .int (S0_group s0), .int (S0_target s0), .int (S0_openPhrase s0), .int (S0_choice s0)])), (h2, .inr (2, [.int (S2_orderVerb s2), .int (S2_count s2), .ref h2a2, .ref h2a3, .ref h2a4, .ref h2a5, .ref h2a6, .ref h2a7])), (h2a2, .inl (cI, 24, .inl (S2_roles s2))), (h2a3, .inl (cI, 24, .inl (S2_kinds s2))), (h2a4, .inl (cI, 24, .inl (S2_adjectiveSets s2))), (h2a5, .inl (cI, 24, .inl (S2_nouns s2))), (h2a6, .inl (cI, 24, .inl (S2_lastPlaces s2))), (h2a7, .inl (cI, 24, .inl (S2_answers s2))), (h3, .inr (3, [.ref h3a0, .int (S3_count s3), .int (S3_place s3), .int (S3_adjectives s3), .int (S3_noun s3)])), (h3a0, .inl (cI, 24, .inl (S3_given s3))), (h4, .inr (4, [.ref h4a0, .ref h4a1, .ref h4a2, .int (S4_count s4), .int (S4_boxes s4), .int (S4_openBoxes s4)])), (h4a0, .inl (cI, 12, .inl (S4_nouns s4))), (h4a1, .inl (cI, 12, .inl (S4_adjectiveSets s4))), (h4a2, .inl (cI, 12, .inl (S4_holders s4))), (h6, .inr (6, [.int (S6_things s6), .ref h6a1, .ref h6a2, .ref h6a3, .ref h6a4, .ref h6a5, .int (S6_count s6), .ref h6a7, .int (S6_outcome s6), .int (S6_wrongAt s6), .int (S6_verb s6), .int (S6_meant s6), .int (S6_done s6), .int (S6_into s6), .int (S6_it s6), .int (S6_questions s6), .int (S6_length s6), .ref h6a17, .ref h6a18, .int (S6_asked s6), .int (S6_askedAt s6), .int (S6_at s6), .int (S6_failedAt s6), .int (S6_choice s6), .int (S6_thrown s6)])), (h6a1, .inl (cI, 12, .inl (S6_noun s6))), (h6a2, .inl (cI, 12, .inl (S6_adjectives s6))), (h6a3, .inl (cZ, 12, .inl (S6_box s6))), (h6a4, .inl (cZ, 12, .inl (S6_open s6))), (h6a5, .inl (cI, 12, .inl (S6_place s6))), (h6a7, .inl (cI, 24, .inl (S6_words s6))), (h6a17, .inl (cI, 24, .inl (S6_order s6))), (h6a18, .inl (cI, 24, .inl (S6_answer s6))), (hO, .inl (cJ, 1, .inr (.inl sO)))]
abbrev cf_01346O (cI cZ cJ : ClassId) (h0 h1 h3 h3a0 h4 h4a0 h4a1 h4a2 h6 h6a1 h6a2 h6a3 h6a4 h6a5 h6a7 h6a17 h6a18 hO h2 : Nat) (s0 : S0) (s1 : S1) (s3 : S3) (s4 : S4) (s6 : S6) (sO : SO) : va_W := [(h0, .inr (0, [.ref h4, .ref h2, .ref h1, .int (S0_reach s0), .int (S0_result s0), .int (S0_group s0), .int (S0_target s0), .int (S0_openPhrase s0), .int (S0_choice s0)])), (h1, .inr (1, [.int (S1_lastVerb s1), .int (S1_lastMeant s1), .int (S1_lastDone s1), .int (S1_lastTarget s1), .int (S1_lastAlone s1)])), (h3, .inr (3, [.ref h3a0, .int (S3_count s3), .int (S3_place s3), .int (S3_adjectives s3), .int (S3_noun s3)])), (h3a0, .inl (cI, 24, .inl (S3_given s3))), (h4, .inr (4, [.ref h4a0, .ref h4a1, .ref h4a2, .int (S4_count s4), .int (S4_boxes s4), .int (S4_openBoxes s4)])), (h4a0, .inl (cI, 12, .inl (S4_nouns s4))), (h4a1, .inl (cI, 12, .inl (S4_adjectiveSets s4))), (h4a2, .inl (cI, 12, .inl (S4_holders s4))), (h6, .inr (6, [.int (S6_things s6), .ref h6a1, .ref h6a2, .ref h6a3, .ref h6a4, .ref h6a5, .int (S6_count s6), .ref h6a7, .int (S6_outcome s6), .int (S6_wrongAt s6), .int (S6_verb s6), .int (S6_meant s6), .int (S6_done s6), .int (S6_into s6), .int (S6_it s6), .int (S6_questions s6), .int (S6_length s6), .ref h6a17, .ref h6a18, .int (S6_asked s6), .int (S6_askedAt s6), .int (S6_at s6), .int (S6_failedAt s6), .int (S6_choice s6), .int (S6_thrown s6)])), (h6a1, .inl (cI, 12, .inl (S6_noun s6))), (h6a2, .inl (cI, 12, .inl (S6_adjectives s6))), (h6a3, .inl (cZ, 12, .inl (S6_box s6))), (h6a4, .inl (cZ, 12, .inl (S6_open s6))), (h6a5, .inl (cI, 12, .inl (S6_place s6))), (h6a7, .inl (cI, 24, .inl (S6_words s6))), (h6a17, .inl (cI, 24, .inl (S6_order s6))), (h6a18, .inl (cI, 24, .inl (S6_answer s6))), (hO, .inl (cJ, 1, .inr (.inl sO)))]
theorem prel_blind {D : va_G} {ws : va_W} {tys : List (ClassId × FieldType)} {sz : Nat} {av : List Value} : FrameBlind (va_Pc av (pre_h D ws tys sz)) := fun a U g mk q => by
  obtain ⟨q0, q1, q2⟩ := q
  obtain ⟨z0, z1⟩ := prex_blind (D := D) (ws := ws) (tys := tys) (sz := sz) (av := av) a U g mk ⟨q0, q1⟩
  exact ⟨z0, z1, va_Nc.moved (u := U) (U := U.calling g mk a) (Vm.Alike.refl U.vm) q2⟩
theorem gx_S {s : State} {H : Heap} {D : va_G} {wc : va_W} {tys : List (ClassId × FieldType)} {A : Nat → Prop} {As : List Value} (hP : va_P D vwCl wc H) (hK : va_K D vwCl tys s) (hD : va_D A wc) (hN : nw s) (hSW : sw s) (hXW : xw s) (hZ : zq A s H) (hF : ∀ q, va_A wc H.size q → A q) (hNc : va_Nc xISE xIAE s) : PreS s H (va_Pc As (pre_h D wc tys H.size)) As :=
  ⟨prel_blind, fun U hU hW => ⟨rfl, ⟨⟨by rw [hU], by rw [hU]; exact hP, va_K.moved hW.alike hK, hD.weaken (fun _ _ _ _ => trivial), nw_warm hW hN⟩, sw_warm hW hSW, xw_warm hW hXW, by rw [hU]; exact zq.moved hW.alike (zq.narrow hZ hF)⟩, va_Nc.moved hW.alike hNc⟩⟩
section GCH
variable {p : Program} {l : Launch} {e : Env} {R : Room} {s : State} {m : MethodId} {args : Array Value} {below : List Frame} {meth : Method} {c : Code} {H H0 : Heap} {locs : List Loc} {cells slots : Nat} {Q : State → Prop} {D : va_G} {A : Nat → Prop} {tyc : List (ClassId × FieldType)} {ws wc wr w1 ws' : va_W} {pc : Nat} {ls : Array Slot} {st0 rest : List Value} {a : Array Value}
theorem gc_h {r : Int32} {mc ms : Nat} (hP : va_P D vwCl ws H) (hD : va_D A ws) (hS : va_S A H0 H locs) (hA : ∀ q : Nat, H0.size ≤ q → A q)
    (isC isR isB : List Nat) (hC : isC.map (fun i => ws[i]?) = wc.map some) (hR : isR.map (fun i => ws[i]?) = wr.map some) (hn : va_nd isR = true) (hdis : ∀ i ∈ isR, i ∉ isC) (hB : isB.map (fun i => (wr ++ w1)[i]?) = ws'.map some) (hnB : va_nd isB = true)
    (hr : va_Run p l e R s m args below meth c H locs cells slots mc ms (F0 m pc ls st0) rest (va_Qi (fun (r' : Int32) (_ : Unit) => r' = r) (post_w D w1 tyc (va_A wc H.size)) (va_A wc H.size) a) (va_A wc H.size))
    (kk : ∀ (H1 : Heap) (locs1 : List Loc), va_P D vwCl ws' H1 → va_D A ws' → va_S A H0 H1 locs1 → W p l e R s m args below meth c H1 locs1 (cells + mc) (slots + ms) Q (F0 m (pc + 3) ls (.int r :: rest))) : W p l e R s m args below meth c H locs cells slots Q (F0 m pc ls st0) := by
  have hF := va_free hD hS hA isC hC
  refine va_calli hr hS (fun q _ h => hF q h) hF (fun r' u t H1 locs1 ht hvm hw hB2 hz hk hS1 => ?_)
  obtain ⟨hP1, -, hD1⟩ := hB2
  rw [ht] at hP1
  obtain ⟨hP2, hD2⟩ := va_join hP hD isC isR hC hR hn hdis hk hF hP1 hD1
  rw [hw]
  exact kk H1 locs1 (hP2.sub isB (fm_of_map hB)) (hD2.sub isB hnB hB) hS1
end GCH
/-! THE CLAIM OUT OF ONE WALK OF THE LAW'S BODY. Your part is whole_start (and what it stands on); all else here is the same for every law, but numbers. -/
def R_law : String := "ParserParlourLaw"
def lw_P (b : Addr) (xs : List Int32) (args : Array Value) (s : State) : Prop := args = #[.ref b] ∧ s.IntsAt b xs ∧ xs.length ≤ 2048 ∧ (Jvm.Cond.and given_1 narrow_1).before args s = true
def lw_Q (_ : Array Value) (s : State) (o : Outcome) (t : State) : Prop := o = .returned (some (.int 1)) ∧ Framed s o t [] 1058 8645
def lw_Z (below : List Frame) (a : Array Value) (s : State) : State → Prop := fun t => ∃ o, t.status = .running ∧ Ended t below o ∧ lw_Q a s o t
/-- the law's own end, with 1 on the stack, nothing written that was there before, its room as the claim has it -/
theorem lw_ret {p : Program} {l : Launch} {e : Env} {s : State} {m : MethodId} {below : List Frame} {meth : Method} {c : Code} {b : Nat} (hx : p.tables.exec = Jvm.exec) (hb : c.code = code) (hr : meth.sig.returnType = ret) (hlocks : meth.locks = false) {pc : Nat} {H : Heap} {ls : Array Slot} (hdg : decode code pc = .ok (.ireturn, 1)) : W p l e room_1 s m #[Value.ref b] below meth c H [] 1058 8645 (lw_Z below #[Value.ref b] s) (F0 m pc ls [.int 1]) := by
  intro T hT X
  obtain ⟨fs, hret, hrun, hended, hW, hframe⟩ := X.leave (v := some (.int 1)) (hlocks := hlocks) (fun h => by rw [hr] at h; cases h)
  have hmeth' : T.vm.method? m = some meth := X.method'
  refine ⟨T.setFrames fs, ?_, .returned (some (.int 1)), hrun, hended, rfl, ⟨_, rfl⟩, hW, hframe⟩
  jvm_step X.here [X.here.top, hx, hb, hdg, hmeth', hr, ret, narrow_b1]
  (try refine ⟨rfl, ?_⟩); (try refine ⟨rfl, ?_⟩)
  first | (intro acts; rw [hret _ acts rfl rfl rfl]) | rw [hret _ _ rfl rfl rfl]
  exact Steps.refl _
/-- what holds at the law's entry: the machine, the code, the tables' words (any of lw_tbl by 'hts w (by decide +kernel)'), the script of L ints xs at the cell b, what the Statement gives of the start (any of its parts by flat_of_before) -/
def lw_At (p : Program) (s : State) (m : MethodId) (meth : Method) (c : Code) (b L : Nat) (xs : Nat → Int32) : Prop :=
  p.tables.exec = Jvm.exec ∧ c.code = code ∧ meth.sig.returnType = ret ∧ c.maxLocals = 7 ∧ s.vm.findClass R_law = some m.cls ∧ (∀ w ∈ lw_tbl, w.before #[Value.ref b] s = true) ∧ va_X b L xs s s.heap ∧ b < s.heap.size ∧ meth.locks = false ∧ (Jvm.Cond.and given_1 narrow_1).before #[Value.ref b] s = true
def fL_law_574 (L : Nat) (xs : Nat → Int32) (k23 : S0 → S1 → S2 → S3 → S4 → S5 → S6 → SO → Int32 → Option Int32) (s0 : S0) (s1 : S1) (s2 : S2) (s3 : S3) (s4 : S4) (s5 : S5) (s6 : S6) (sO : SO) (x4 : Int32) : Option Int32 :=
    k23 s0 s1 s2 s3 s4 s5 s6 sO (x4 + 4)
def fL_law_441 (L : Nat) (xs : Nat → Int32) (k23 : S0 → S1 → S2 → S3 → S4 → S5 → S6 → SO → Int32 → Option Int32) (s0 : S0) (s1 : S1) (s2 : S2) (s3 : S3) (s4 : S4) (s5 : S5) (s6 : S6) (sO : SO) (x4 : Int32) : Option Int32 :=
    fL_law_574 L xs k23 s0 s1 s2 s3 s4 s5 s6 sO x4
def fL_law_397 (L : Nat) (xs : Nat → Int32) (k23 : S0 → S1 → S2 → S3 → S4 → S5 → S6 → SO → Int32 → Option Int32) (s0 : S0) (s1 : S1) (s2 : S2) (s3 : S3) (s4 : S4) (s5 : S5) (s6 : S6) (sO : SO) (x4 : Int32) : Option Int32 :=
    fL_law_574 L xs k23 s0 s1 s2 s3 s4 s5 s6 sO x4
def fL_law_328 (L : Nat) (xs : Nat → Int32) (k23 : S0 → S1 → S2 → S3 → S4 → S5 → S6 → SO → Int32 → Option Int32) (s0 : S0) (s1 : S1) (s2 : S2) (s3 : S3) (s4 : S4) (s5 : S5) (s6 : S6) (sO : SO) (x4 : Int32) : Option Int32 :=
    fL_law_574 L xs k23 s0 s1 s2 s3 s4 s5 s6 sO x4
def fL_law_265 (L : Nat) (xs : Nat → Int32) (k23 : S0 → S1 → S2 → S3 → S4 → S5 → S6 → SO → Int32 → Option Int32) (s0 : S0) (s1 : S1) (s2 : S2) (s3 : S3) (s4 : S4) (s5 : S5) (s6 : S6) (sO : SO) (x4 : Int32) : Option Int32 :=
    fL_law_574 L xs k23 s0 s1 s2 s3 s4 s5 s6 sO x4
def fL_law_209 (L : Nat) (xs : Nat → Int32) (k23 : S0 → S1 → S2 → S3 → S4 → S5 → S6 → SO → Int32 → Option Int32) (s0 : S0) (s1 : S1) (s2 : S2) (s3 : S3) (s4 : S4) (s5 : S5) (s6 : S6) (sO : SO) (x4 : Int32) : Option Int32 :=
    fL_law_574 L xs k23 s0 s1 s2 s3 s4 s5 s6 sO x4
def fL_law_176 (L : Nat) (xs : Nat → Int32) (k23 : S0 → S1 → S2 → S3 → S4 → S5 → S6 → SO → Int32 → Option Int32) (s0 : S0) (s1 : S1) (s2 : S2) (s3 : S3) (s4 : S4) (s5 : S5) (s6 : S6) (sO : SO) (x4 : Int32) (x5 : Int32) (t1 : Int32) (t2 : Int32) (t3 : Int32) : Option Int32 :=
    bn2 (fX6_thing s6 t1 t2 t3) fun r_1 s6_1 =>
    bn1 (fX6_thrown s6_1) fun r_2 =>
    if r_2 = x5 then
      if x5 = 0 then
        if (lg_cmp (sO (0 : Int32).toNatClampNeg) r_1.toInt64) = 0 then
          fL_law_209 L xs k23 s0 s1 s2 s3 s4 s5 s6_1 sO x4
        else
          some 0
      else
        fL_law_209 L xs k23 s0 s1 s2 s3 s4 s5 s6_1 sO x4
    else
      some 0
def fL_law_143 (L : Nat) (xs : Nat → Int32) (k23 : S0 → S1 → S2 → S3 → S4 → S5 → S6 → SO → Int32 → Option Int32) (s0 : S0) (s1 : S1) (s2 : S2) (s3 : S3) (s4 : S4) (s5 : S5) (s6 : S6) (sO : SO) (x4 : Int32) (t1 : Int32) (t2 : Int32) (t3 : Int32) : Option Int32 :=
    bn3 (fX5_thing s4 s5 t1 t2 t3) fun k_1 r_1 s4_1 =>
    ai L (x4 + 1) <|
    ai L (x4 + 2) <|
    ai L (x4 + 3) <|
    if (xs (x4 + 3).toNatClampNeg) = 0 then
      fL_law_176 L xs k23 s0 s1 s2 s3 (if k_1 = 0 then s4_1 else s4) s5 s6 (if k_1 = 0 then vp_updL sO 0 r_1.toInt64 else sO) x4 k_1 (xs (x4 + 1).toNatClampNeg) (xs (x4 + 2).toNatClampNeg) 0
    else
      fL_law_176 L xs k23 s0 s1 s2 s3 (if k_1 = 0 then s4_1 else s4) s5 s6 (if k_1 = 0 then vp_updL sO 0 r_1.toInt64 else sO) x4 k_1 (xs (x4 + 1).toNatClampNeg) (xs (x4 + 2).toNatClampNeg) 1
def fL_law_23 (L : Nat) (xs : Nat → Int32) : Nat → S0 → S1 → S2 → S3 → S4 → S5 → S6 → SO → Int32 → Option Int32
  | 0, _, _, _, _, _, _, _, _, _ => none
  | n + 1, s0, s1, s2, s3, s4, s5, s6, sO, x4 =>
      if ((Int32.ofNat L) - 4) < x4 then
        some 1
      else
        ai L x4 <|
        if ((xs x4.toNatClampNeg) &&& 15) = 0 then
          ai L (x4 + 1) <|
          ai L (x4 + 2) <|
          ai L (x4 + 3) <|
          if (xs (x4 + 3).toNatClampNeg) = 0 then
            fL_law_143 L xs (fun s0 s1 s2 s3 s4 s5 s6 sO x4 => fL_law_23 L xs n s0 s1 s2 s3 s4 s5 s6 sO x4) s0 s1 s2 s3 s4 s5 s6 sO x4 (xs (x4 + 1).toNatClampNeg) (xs (x4 + 2).toNatClampNeg) 0
          else
            fL_law_143 L xs (fun s0 s1 s2 s3 s4 s5 s6 sO x4 => fL_law_23 L xs n s0 s1 s2 s3 s4 s5 s6 sO x4) s0 s1 s2 s3 s4 s5 s6 sO x4 (xs (x4 + 1).toNatClampNeg) (xs (x4 + 2).toNatClampNeg) 1
        else
        if ((xs x4.toNatClampNeg) &&& 15) = 1 then
          ai L (x4 + 1) <|
          bn2 (fX5_placeOf s4 s5 (xs (x4 + 1).toNatClampNeg)) fun k_10 r_10 =>
          ai L (x4 + 1) <|
          bn2 (fX6_placeOf s6 (xs (x4 + 1).toNatClampNeg)) fun r_12 s6_12 =>
          bn1 (fX6_thrown s6_12) fun r_13 =>
          if r_13 = k_10 then
            if k_10 = 0 then
              if (lg_cmp ((if k_10 = 0 then vp_updL sO 0 r_10.toInt64 else sO) (0 : Int32).toNatClampNeg) r_12.toInt64) = 0 then
                fL_law_265 L xs (fun s0 s1 s2 s3 s4 s5 s6 sO x4 => fL_law_23 L xs n s0 s1 s2 s3 s4 s5 s6 sO x4) s0 s1 s2 s3 s4 s5 s6_12 (if k_10 = 0 then vp_updL sO 0 r_10.toInt64 else sO) x4
              else
                some 0
            else
              fL_law_265 L xs (fun s0 s1 s2 s3 s4 s5 s6 sO x4 => fL_law_23 L xs n s0 s1 s2 s3 s4 s5 s6 sO x4) s0 s1 s2 s3 s4 s5 s6_12 (if k_10 = 0 then vp_updL sO 0 r_10.toInt64 else sO) x4
          else
            some 0
        else
        if ((xs x4.toNatClampNeg) &&& 15) = 2 then
          ai L (x4 + 1) <|
          bn2 (fX5_isOpen s4 s5 (xs (x4 + 1).toNatClampNeg)) fun k_19 r_19 =>
          ai L (x4 + 1) <|
          bn2 (fX6_isOpen s6 (xs (x4 + 1).toNatClampNeg)) fun r_21 s6_21 =>
          bn1 (fX6_thrown s6_21) fun r_22 =>
          if r_22 = k_19 then
            if k_19 = 0 then
              if r_21 = 0 then
                if (lg_cmp ((if k_19 = 0 then vp_updL sO 0 (if r_19 = 0 then 0 else 1) else sO) (0 : Int32).toNatClampNeg) 0) = 0 then
                  fL_law_328 L xs (fun s0 s1 s2 s3 s4 s5 s6 sO x4 => fL_law_23 L xs n s0 s1 s2 s3 s4 s5 s6 sO x4) s0 s1 s2 s3 s4 s5 s6_21 (if k_19 = 0 then vp_updL sO 0 (if r_19 = 0 then 0 else 1) else sO) x4
                else
                  some 0
              else
                if (lg_cmp ((if k_19 = 0 then vp_updL sO 0 (if r_19 = 0 then 0 else 1) else sO) (0 : Int32).toNatClampNeg) 1) = 0 then
                  fL_law_328 L xs (fun s0 s1 s2 s3 s4 s5 s6 sO x4 => fL_law_23 L xs n s0 s1 s2 s3 s4 s5 s6 sO x4) s0 s1 s2 s3 s4 s5 s6_21 (if k_19 = 0 then vp_updL sO 0 (if r_19 = 0 then 0 else 1) else sO) x4
                else
                  some 0
            else
              fL_law_328 L xs (fun s0 s1 s2 s3 s4 s5 s6 sO x4 => fL_law_23 L xs n s0 s1 s2 s3 s4 s5 s6 sO x4) s0 s1 s2 s3 s4 s5 s6_21 (if k_19 = 0 then vp_updL sO 0 (if r_19 = 0 then 0 else 1) else sO) x4
          else
            some 0
        else
        if ((xs x4.toNatClampNeg) &&& 15) = 3 then
          bn1 (fX5_inReach s4 s5) fun r_29 =>
          bn2 (fX6_inReach s6) fun r_30 s6_30 =>
          if r_29 = r_30 then
            fL_law_574 L xs (fun s0 s1 s2 s3 s4 s5 s6 sO x4 => fL_law_23 L xs n s0 s1 s2 s3 s4 s5 s6 sO x4) s0 s1 s2 s3 s4 s5 s6_30 sO x4
          else
            some 0
        else
        if ((xs x4.toNatClampNeg) &&& 15) = 4 then
          ai L (x4 + 1) <|
          bn3 (fX5_word s3 s5 (xs (x4 + 1).toNatClampNeg)) fun k_34 r_34 s3_34 =>
          ai L (x4 + 1) <|
          bn2 (fX6_word s6 (xs (x4 + 1).toNatClampNeg)) fun r_36 s6_36 =>
          bn1 (fX6_thrown s6_36) fun r_37 =>
          if r_37 = k_34 then
            if k_34 = 0 then
              if (lg_cmp ((if k_34 = 0 then vp_updL sO 0 r_34.toInt64 else sO) (0 : Int32).toNatClampNeg) r_36.toInt64) = 0 then
                fL_law_397 L xs (fun s0 s1 s2 s3 s4 s5 s6 sO x4 => fL_law_23 L xs n s0 s1 s2 s3 s4 s5 s6 sO x4) s0 s1 s2 (if k_34 = 0 then s3_34 else s3) s4 s5 s6_36 (if k_34 = 0 then vp_updL sO 0 r_34.toInt64 else sO) x4
              else
                some 0
            else
              fL_law_397 L xs (fun s0 s1 s2 s3 s4 s5 s6 sO x4 => fL_law_23 L xs n s0 s1 s2 s3 s4 s5 s6 sO x4) s0 s1 s2 (if k_34 = 0 then s3_34 else s3) s4 s5 s6_36 (if k_34 = 0 then vp_updL sO 0 r_34.toInt64 else sO) x4
          else
            some 0
        else
        if ((xs x4.toNatClampNeg) &&& 15) = 5 then
          bn3 (fX5_back s3 s5) fun k_42 r_42 s3_42 =>
          bn2 (fX6_back s6) fun r_43 s6_43 =>
          bn1 (fX6_thrown s6_43) fun r_44 =>
          if r_44 = k_42 then
            if k_42 = 0 then
              if (lg_cmp ((if k_42 = 0 then vp_updL sO 0 r_42.toInt64 else sO) (0 : Int32).toNatClampNeg) r_43.toInt64) = 0 then
                fL_law_441 L xs (fun s0 s1 s2 s3 s4 s5 s6 sO x4 => fL_law_23 L xs n s0 s1 s2 s3 s4 s5 s6 sO x4) s0 s1 s2 (if k_42 = 0 then s3_42 else s3) s4 s5 s6_43 (if k_42 = 0 then vp_updL sO 0 r_42.toInt64 else sO) x4
              else
                some 0
            else
              fL_law_441 L xs (fun s0 s1 s2 s3 s4 s5 s6 sO x4 => fL_law_23 L xs n s0 s1 s2 s3 s4 s5 s6 sO x4) s0 s1 s2 (if k_42 = 0 then s3_42 else s3) s4 s5 s6_43 (if k_42 = 0 then vp_updL sO 0 r_42.toInt64 else sO) x4
          else
            some 0
        else
        if ((xs x4.toNatClampNeg) &&& 15) = 6 then
          bn7 (fX5_say s0 s1 s2 s3 s4 s5) fun r_49 s0_49 s1_49 s2_49 s3_49 s4_49 s5_49 =>
          bn2 (fX6_say s6) fun r_50 s6_50 =>
          if r_49 = r_50 then
            fL_law_574 L xs (fun s0 s1 s2 s3 s4 s5 s6 sO x4 => fL_law_23 L xs n s0 s1 s2 s3 s4 s5 s6 sO x4) s0_49 s1_49 s2_49 s3_49 s4_49 s5_49 s6_50 sO x4
          else
            some 0
        else
        if ((xs x4.toNatClampNeg) &&& 15) = 7 then
          bn1 (fX5_outcome s5) fun r_53 =>
          bn2 (fX6_outcome s6) fun r_54 s6_54 =>
          if r_53 = r_54 then
            fL_law_574 L xs (fun s0 s1 s2 s3 s4 s5 s6 sO x4 => fL_law_23 L xs n s0 s1 s2 s3 s4 s5 s6 sO x4) s0 s1 s2 s3 s4 s5 s6_54 sO x4
          else
            some 0
        else
        if ((xs x4.toNatClampNeg) &&& 15) = 8 then
          bn1 (fX5_wrongAt s5) fun r_57 =>
          bn2 (fX6_wrongAt s6) fun r_58 s6_58 =>
          if r_57 = r_58 then
            fL_law_574 L xs (fun s0 s1 s2 s3 s4 s5 s6 sO x4 => fL_law_23 L xs n s0 s1 s2 s3 s4 s5 s6 sO x4) s0 s1 s2 s3 s4 s5 s6_58 sO x4
          else
            some 0
        else
        if ((xs x4.toNatClampNeg) &&& 15) = 9 then
          bn1 (fX5_verb s1 s5) fun r_61 =>
          bn2 (fX6_verb s6) fun r_62 s6_62 =>
          if r_61 = r_62 then
            fL_law_574 L xs (fun s0 s1 s2 s3 s4 s5 s6 sO x4 => fL_law_23 L xs n s0 s1 s2 s3 s4 s5 s6 sO x4) s0 s1 s2 s3 s4 s5 s6_62 sO x4
          else
            some 0
        else
        if ((xs x4.toNatClampNeg) &&& 15) = 10 then
          bn1 (fX5_meant s1 s5) fun r_65 =>
          bn2 (fX6_meant s6) fun r_66 s6_66 =>
          if r_65 = r_66 then
            fL_law_574 L xs (fun s0 s1 s2 s3 s4 s5 s6 sO x4 => fL_law_23 L xs n s0 s1 s2 s3 s4 s5 s6 sO x4) s0 s1 s2 s3 s4 s5 s6_66 sO x4
          else
            some 0
        else
        if ((xs x4.toNatClampNeg) &&& 15) = 11 then
          bn1 (fX5_done s1 s5) fun r_69 =>
          bn2 (fX6_done s6) fun r_70 s6_70 =>
          if r_69 = r_70 then
            fL_law_574 L xs (fun s0 s1 s2 s3 s4 s5 s6 sO x4 => fL_law_23 L xs n s0 s1 s2 s3 s4 s5 s6 sO x4) s0 s1 s2 s3 s4 s5 s6_70 sO x4
          else
            some 0
        else
        if ((xs x4.toNatClampNeg) &&& 15) = 12 then
          bn1 (fX5_into s1 s5) fun r_73 =>
          bn2 (fX6_into s6) fun r_74 s6_74 =>
          if r_73 = r_74 then
            fL_law_574 L xs (fun s0 s1 s2 s3 s4 s5 s6 sO x4 => fL_law_23 L xs n s0 s1 s2 s3 s4 s5 s6 sO x4) s0 s1 s2 s3 s4 s5 s6_74 sO x4
          else
            some 0
        else
        if ((xs x4.toNatClampNeg) &&& 15) = 13 then
          bn1 (fX5_asked s5) fun r_77 =>
          bn2 (fX6_asked s6) fun r_78 s6_78 =>
          if r_77 = r_78 then
            fL_law_574 L xs (fun s0 s1 s2 s3 s4 s5 s6 sO x4 => fL_law_23 L xs n s0 s1 s2 s3 s4 s5 s6 sO x4) s0 s1 s2 s3 s4 s5 s6_78 sO x4
          else
            some 0
        else
        if ((xs x4.toNatClampNeg) &&& 15) = 14 then
          bn1 (fX5_askedAt s2 s5) fun r_81 =>
          bn2 (fX6_askedAt s6) fun r_82 s6_82 =>
          if r_81 = r_82 then
            fL_law_574 L xs (fun s0 s1 s2 s3 s4 s5 s6 sO x4 => fL_law_23 L xs n s0 s1 s2 s3 s4 s5 s6 sO x4) s0 s1 s2 s3 s4 s5 s6_82 sO x4
          else
            some 0
        else
        if ((xs x4.toNatClampNeg) &&& 15) = 15 then
          bn1 (fX5_questions s5) fun r_85 =>
          bn2 (fX6_questions s6) fun r_86 s6_86 =>
          if r_85 = r_86 then
            fL_law_574 L xs (fun s0 s1 s2 s3 s4 s5 s6 sO x4 => fL_law_23 L xs n s0 s1 s2 s3 s4 s5 s6 sO x4) s0 s1 s2 s3 s4 s5 s6_86 sO x4
          else
            some 0
        else
          fL_law_574 L xs (fun s0 s1 s2 s3 s4 s5 s6 sO x4 => fL_law_23 L xs n s0 s1 s2 s3 s4 s5 s6 sO x4) s0 s1 s2 s3 s4 s5 s6 sO x4
