set_option maxRecDepth 20000 in
theorem gL_law_X6_say : GoodIn wsL_law (wsV RL 68 RX6 yX6_say wsX6_say) := goodIn_app (goodIn_of _ (by decide +kernel)) ggL_law_X6_say
set_option maxRecDepth 20000 in
theorem ggL_law_X5_outcome : GoodIn wsL_law wsX5_outcome := goodIn_r _ [522, 33, 591, 592, 593, 594, 595, 596, 597, 598, 599, 600] (by decide +kernel) (by decide +kernel)
set_option maxRecDepth 20000 in
theorem gL_law_X5_outcome : GoodIn wsL_law (wsV RL 69 RX5 yX5_outcome wsX5_outcome) := goodIn_app (goodIn_of _ (by decide +kernel)) ggL_law_X5_outcome
set_option maxRecDepth 20000 in
theorem ggL_law_X6_outcome : GoodIn wsL_law wsX6_outcome := goodIn_r _ [526, 142, 107, 601, 602, 603, 604, 605, 606, 607, 608, 609, 610, 611, 612, 613, 614, 615, 616, 617, 618, 619, 620, 621, 622, 623, 624, 625] (by decide +kernel) (by decide +kernel)
set_option maxRecDepth 20000 in
theorem gL_law_X6_outcome : GoodIn wsL_law (wsV RL 72 RX6 yX6_outcome wsX6_outcome) := goodIn_app (goodIn_of _ (by decide +kernel)) ggL_law_X6_outcome
set_option maxRecDepth 20000 in
theorem ggL_law_X5_wrongAt : GoodIn wsL_law wsX5_wrongAt := goodIn_r _ [530, 34, 591, 592, 593, 594, 595, 596, 597, 598, 599, 600] (by decide +kernel) (by decide +kernel)
set_option maxRecDepth 20000 in
theorem gL_law_X5_wrongAt : GoodIn wsL_law (wsV RL 73 RX5 yX5_wrongAt wsX5_wrongAt) := goodIn_app (goodIn_of _ (by decide +kernel)) ggL_law_X5_wrongAt
set_option maxRecDepth 20000 in
theorem ggL_law_X6_wrongAt : GoodIn wsL_law wsX6_wrongAt := goodIn_r _ [534, 142, 108, 601, 602, 603, 604, 605, 606, 607, 608, 609, 610, 611, 612, 613, 614, 615, 616, 617, 618, 619, 620, 621, 622, 623, 624, 625] (by decide +kernel) (by decide +kernel)
set_option maxRecDepth 20000 in
theorem gL_law_X6_wrongAt : GoodIn wsL_law (wsV RL 76 RX6 yX6_wrongAt wsX6_wrongAt) := goodIn_app (goodIn_of _ (by decide +kernel)) ggL_law_X6_wrongAt
set_option maxRecDepth 20000 in
theorem ggL_law_X5_verb : GoodIn wsL_law wsX5_verb := goodIn_r _ [538, 28, 591, 592, 593, 594, 595, 596, 597, 598, 599, 600, 645, 646, 647, 648, 649] (by decide +kernel) (by decide +kernel)
set_option maxRecDepth 20000 in
theorem gL_law_X5_verb : GoodIn wsL_law (wsV RL 77 RX5 yX5_verb wsX5_verb) := goodIn_app (goodIn_of _ (by decide +kernel)) ggL_law_X5_verb
set_option maxRecDepth 20000 in
theorem ggL_law_X6_verb : GoodIn wsL_law wsX6_verb := goodIn_r _ [542, 142, 109, 601, 602, 603, 604, 605, 606, 607, 608, 609, 610, 611, 612, 613, 614, 615, 616, 617, 618, 619, 620, 621, 622, 623, 624, 625] (by decide +kernel) (by decide +kernel)
set_option maxRecDepth 20000 in
theorem gL_law_X6_verb : GoodIn wsL_law (wsV RL 80 RX6 yX6_verb wsX6_verb) := goodIn_app (goodIn_of _ (by decide +kernel)) ggL_law_X6_verb
set_option maxRecDepth 20000 in
theorem ggL_law_X5_meant : GoodIn wsL_law wsX5_meant := goodIn_r _ [546, 28, 591, 592, 593, 594, 595, 596, 597, 598, 599, 600, 645, 646, 647, 648, 649] (by decide +kernel) (by decide +kernel)
set_option maxRecDepth 20000 in
theorem gL_law_X5_meant : GoodIn wsL_law (wsV RL 81 RX5 yX5_meant wsX5_meant) := goodIn_app (goodIn_of _ (by decide +kernel)) ggL_law_X5_meant
set_option maxRecDepth 20000 in
theorem ggL_law_X6_meant : GoodIn wsL_law wsX6_meant := goodIn_r _ [550, 142, 453, 601, 602, 603, 604, 605, 606, 607, 608, 609, 610, 611, 612, 613, 614, 615, 616, 617, 618, 619, 620, 621, 622, 623, 624, 625] (by decide +kernel) (by decide +kernel)
set_option maxRecDepth 20000 in
theorem gL_law_X6_meant : GoodIn wsL_law (wsV RL 84 RX6 yX6_meant wsX6_meant) := goodIn_app (goodIn_of _ (by decide +kernel)) ggL_law_X6_meant
set_option maxRecDepth 20000 in
theorem ggL_law_X5_done : GoodIn wsL_law wsX5_done := goodIn_r _ [554, 28, 591, 592, 593, 594, 595, 596, 597, 598, 599, 600, 645, 646, 647, 648, 649] (by decide +kernel) (by decide +kernel)
set_option maxRecDepth 20000 in
theorem gL_law_X5_done : GoodIn wsL_law (wsV RL 85 RX5 yX5_done wsX5_done) := goodIn_app (goodIn_of _ (by decide +kernel)) ggL_law_X5_done
set_option maxRecDepth 20000 in
theorem ggL_law_X6_done : GoodIn wsL_law wsX6_done := goodIn_r _ [558, 142, 454, 601, 602, 603, 604, 605, 606, 607, 608, 609, 610, 611, 612, 613, 614, 615, 616, 617, 618, 619, 620, 621, 622, 623, 624, 625] (by decide +kernel) (by decide +kernel)
set_option maxRecDepth 20000 in
theorem gL_law_X6_done : GoodIn wsL_law (wsV RL 88 RX6 yX6_done wsX6_done) := goodIn_app (goodIn_of _ (by decide +kernel)) ggL_law_X6_done
set_option maxRecDepth 20000 in
theorem ggL_law_X5_into : GoodIn wsL_law wsX5_into := goodIn_r _ [562, 28, 591, 592, 593, 594, 595, 596, 597, 598, 599, 600, 645, 646, 647, 648, 649] (by decide +kernel) (by decide +kernel)
set_option maxRecDepth 20000 in
theorem gL_law_X5_into : GoodIn wsL_law (wsV RL 89 RX5 yX5_into wsX5_into) := goodIn_app (goodIn_of _ (by decide +kernel)) ggL_law_X5_into
set_option maxRecDepth 20000 in
theorem ggL_law_X6_into : GoodIn wsL_law wsX6_into := goodIn_r _ [566, 142, 110, 601, 602, 603, 604, 605, 606, 607, 608, 609, 610, 611, 612, 613, 614, 615, 616, 617, 618, 619, 620, 621, 622, 623, 624, 625] (by decide +kernel) (by decide +kernel)
set_option maxRecDepth 20000 in
theorem gL_law_X6_into : GoodIn wsL_law (wsV RL 92 RX6 yX6_into wsX6_into) := goodIn_app (goodIn_of _ (by decide +kernel)) ggL_law_X6_into
set_option maxRecDepth 20000 in
theorem ggL_law_X5_asked : GoodIn wsL_law wsX5_asked := goodIn_r _ [570, 35, 591, 592, 593, 594, 595, 596, 597, 598, 599, 600] (by decide +kernel) (by decide +kernel)
set_option maxRecDepth 20000 in
theorem gL_law_X5_asked : GoodIn wsL_law (wsV RL 93 RX5 yX5_asked wsX5_asked) := goodIn_app (goodIn_of _ (by decide +kernel)) ggL_law_X5_asked
set_option maxRecDepth 20000 in
theorem ggL_law_X6_asked : GoodIn wsL_law wsX6_asked := goodIn_r _ [574, 142, 439, 601, 602, 603, 604, 605, 606, 607, 608, 609, 610, 611, 612, 613, 614, 615, 616, 617, 618, 619, 620, 621, 622, 623, 624, 625] (by decide +kernel) (by decide +kernel)
set_option maxRecDepth 20000 in
theorem gL_law_X6_asked : GoodIn wsL_law (wsV RL 96 RX6 yX6_asked wsX6_asked) := goodIn_app (goodIn_of _ (by decide +kernel)) ggL_law_X6_asked
set_option maxRecDepth 20000 in
theorem ggL_law_X5_askedAt : GoodIn wsL_law wsX5_askedAt := goodIn_r _ [578, 35, 24, 36, 385, 386, 387, 23, 388, 68, 306, 307, 308, 309, 63, 591, 592, 593, 594, 595, 596, 597, 598, 599, 600, 637, 638, 639, 640, 641, 642, 643, 644] (by decide +kernel) (by decide +kernel)
set_option maxRecDepth 20000 in
theorem gL_law_X5_askedAt : GoodIn wsL_law (wsV RL 97 RX5 yX5_askedAt wsX5_askedAt) := goodIn_app (goodIn_of _ (by decide +kernel)) ggL_law_X5_askedAt
set_option maxRecDepth 20000 in
theorem ggL_law_X6_askedAt : GoodIn wsL_law wsX6_askedAt := goodIn_r _ [582, 142, 114, 601, 602, 603, 604, 605, 606, 607, 608, 609, 610, 611, 612, 613, 614, 615, 616, 617, 618, 619, 620, 621, 622, 623, 624, 625] (by decide +kernel) (by decide +kernel)
set_option maxRecDepth 20000 in
theorem gL_law_X6_askedAt : GoodIn wsL_law (wsV RL 100 RX6 yX6_askedAt wsX6_askedAt) := goodIn_app (goodIn_of _ (by decide +kernel)) ggL_law_X6_askedAt
set_option maxRecDepth 20000 in
theorem ggL_law_X5_questions : GoodIn wsL_law wsX5_questions := goodIn_r _ [586, 37, 591, 592, 593, 594, 595, 596, 597, 598, 599, 600] (by decide +kernel) (by decide +kernel)
set_option maxRecDepth 20000 in
theorem gL_law_X5_questions : GoodIn wsL_law (wsV RL 101 RX5 yX5_questions wsX5_questions) := goodIn_app (goodIn_of _ (by decide +kernel)) ggL_law_X5_questions
set_option maxRecDepth 20000 in
theorem ggL_law_X6_questions : GoodIn wsL_law wsX6_questions := goodIn_r _ [590, 142, 434, 601, 602, 603, 604, 605, 606, 607, 608, 609, 610, 611, 612, 613, 614, 615, 616, 617, 618, 619, 620, 621, 622, 623, 624, 625] (by decide +kernel) (by decide +kernel)
set_option maxRecDepth 20000 in
theorem gL_law_X6_questions : GoodIn wsL_law (wsV RL 104 RX6 yX6_questions wsX6_questions) := goodIn_app (goodIn_of _ (by decide +kernel)) ggL_law_X6_questions
