theorem w532 : Cond.methodLink RL 137 yL_blank ∈ allw := tw 175 (by decide +kernel) (by decide +kernel)
theorem w533 : Cond.codeWith yL_blank cL_blank 7 (some .int) [(0, 14, 17, 13), (0, 14, 21, 15)] ∈ allw := tw 177 (by decide +kernel) (by decide +kernel)
theorem w534 : Cond.initialized RL ∈ allw := tw 0 (by decide +kernel) (by decide +kernel)
theorem w535 : Cond.static yL_blank ∈ allw := tw 176 (by decide +kernel) (by decide +kernel)
theorem w536 : Cond.methodLink RL 142 yX4_blank ∈ allw := tw 871 (by decide +kernel) (by decide +kernel)
theorem w537 : Cond.code yX4_blank cX4_blank 6 (some .int) ∈ allw := tw 874 (by decide +kernel) (by decide +kernel)
theorem w538 : Cond.instanceMethod yX4_blank ∈ allw := tw 872 (by decide +kernel) (by decide +kernel)
theorem w539 : Cond.selects RX4 yX4_blank yX4_blank ∈ allw := tw 873 (by decide +kernel) (by decide +kernel)
theorem w540 : Cond.methodLink RL 143 yL_cut ∈ allw := tw 347 (by decide +kernel) (by decide +kernel)
theorem w541 : Cond.codeWith yL_cut cL_cut 6 (some .int) [(0, 12, 15, 21), (0, 12, 19, 13), (0, 12, 23, 23)] ∈ allw := tw 349 (by decide +kernel) (by decide +kernel)
theorem w542 : Cond.static yL_cut ∈ allw := tw 348 (by decide +kernel) (by decide +kernel)
theorem w543 : Cond.methodLink RL 146 yX4_cut ∈ allw := tw 885 (by decide +kernel) (by decide +kernel)
theorem w544 : Cond.code yX4_cut cX4_cut 4 (some .int) ∈ allw := tw 888 (by decide +kernel) (by decide +kernel)
theorem w545 : Cond.instanceMethod yX4_cut ∈ allw := tw 886 (by decide +kernel) (by decide +kernel)
theorem w546 : Cond.selects RX4 yX4_cut yX4_cut ∈ allw := tw 887 (by decide +kernel) (by decide +kernel)
theorem w547 : Cond.methodLink RL 147 yL_upcut ∈ allw := tw 423 (by decide +kernel) (by decide +kernel)
theorem w548 : Cond.codeWith yL_upcut cL_upcut 4 (some .int) [(0, 9, 12, 21), (0, 9, 15, 23)] ∈ allw := tw 425 (by decide +kernel) (by decide +kernel)
theorem w549 : Cond.static yL_upcut ∈ allw := tw 424 (by decide +kernel) (by decide +kernel)
theorem w550 : Cond.methodLink RL 150 yX4_upcut ∈ allw := tw 910 (by decide +kernel) (by decide +kernel)
theorem w551 : Cond.code yX4_upcut cX4_upcut 4 (some .int) ∈ allw := tw 913 (by decide +kernel) (by decide +kernel)
theorem w552 : Cond.instanceMethod yX4_upcut ∈ allw := tw 911 (by decide +kernel) (by decide +kernel)
theorem w553 : Cond.selects RX4 yX4_upcut yX4_upcut ∈ allw := tw 912 (by decide +kernel) (by decide +kernel)
theorem w554 : Cond.methodLink RL 151 yL_teeth ∈ allw := tw 435 (by decide +kernel) (by decide +kernel)
theorem w555 : Cond.codeWith yL_teeth cL_teeth 4 (some .int) [(0, 9, 12, 21)] ∈ allw := tw 437 (by decide +kernel) (by decide +kernel)
theorem w556 : Cond.static yL_teeth ∈ allw := tw 436 (by decide +kernel) (by decide +kernel)
theorem w557 : Cond.methodLink RL 153 yX4_teeth ∈ allw := tw 917 (by decide +kernel) (by decide +kernel)
theorem w558 : Cond.code yX4_teeth cX4_teeth 2 (some .int) ∈ allw := tw 920 (by decide +kernel) (by decide +kernel)
theorem w559 : Cond.instanceMethod yX4_teeth ∈ allw := tw 918 (by decide +kernel) (by decide +kernel)
theorem w560 : Cond.selects RX4 yX4_teeth yX4_teeth ∈ allw := tw 919 (by decide +kernel) (by decide +kernel)
theorem w561 : Cond.methodLink RL 154 yL_place ∈ allw := tw 442 (by decide +kernel) (by decide +kernel)
theorem w562 : Cond.codeWith yL_place cL_place 5 (some .int) [(0, 10, 13, 21), (0, 10, 17, 36)] ∈ allw := tw 444 (by decide +kernel) (by decide +kernel)
theorem w563 : Cond.static yL_place ∈ allw := tw 443 (by decide +kernel) (by decide +kernel)
theorem w564 : Cond.methodLink RL 157 yX4_place ∈ allw := tw 921 (by decide +kernel) (by decide +kernel)
theorem w565 : Cond.code yX4_place cX4_place 3 (some .int) ∈ allw := tw 924 (by decide +kernel) (by decide +kernel)
theorem w566 : Cond.instanceMethod yX4_place ∈ allw := tw 922 (by decide +kernel) (by decide +kernel)
theorem w567 : Cond.selects RX4 yX4_place yX4_place ∈ allw := tw 923 (by decide +kernel) (by decide +kernel)
theorem w568 : Cond.methodLink RL 158 yL_height ∈ allw := tw 469 (by decide +kernel) (by decide +kernel)
theorem w569 : Cond.codeWith yL_height cL_height 5 (some .int) [(0, 10, 13, 21), (0, 10, 17, 36)] ∈ allw := tw 471 (by decide +kernel) (by decide +kernel)
theorem w570 : Cond.static yL_height ∈ allw := tw 470 (by decide +kernel) (by decide +kernel)
theorem w571 : Cond.methodLink RL 160 yX4_height ∈ allw := tw 929 (by decide +kernel) (by decide +kernel)
theorem w572 : Cond.code yX4_height cX4_height 3 (some .int) ∈ allw := tw 932 (by decide +kernel) (by decide +kernel)
theorem w573 : Cond.instanceMethod yX4_height ∈ allw := tw 930 (by decide +kernel) (by decide +kernel)
theorem w574 : Cond.selects RX4 yX4_height yX4_height ∈ allw := tw 931 (by decide +kernel) (by decide +kernel)
theorem w575 : Cond.methodLink RL 161 yL_wear ∈ allw := tw 476 (by decide +kernel) (by decide +kernel)
theorem w576 : Cond.codeWith yL_wear cL_wear 5 (some .int) [(0, 10, 13, 21), (0, 10, 17, 36)] ∈ allw := tw 478 (by decide +kernel) (by decide +kernel)
theorem w577 : Cond.static yL_wear ∈ allw := tw 477 (by decide +kernel) (by decide +kernel)
theorem w578 : Cond.methodLink RL 163 yX4_wear ∈ allw := tw 933 (by decide +kernel) (by decide +kernel)
theorem w579 : Cond.code yX4_wear cX4_wear 3 (some .int) ∈ allw := tw 936 (by decide +kernel) (by decide +kernel)
theorem w580 : Cond.instanceMethod yX4_wear ∈ allw := tw 934 (by decide +kernel) (by decide +kernel)
theorem w581 : Cond.selects RX4 yX4_wear yX4_wear ∈ allw := tw 935 (by decide +kernel) (by decide +kernel)
theorem w582 : Cond.methodLink RL 164 yL_sings ∈ allw := tw 483 (by decide +kernel) (by decide +kernel)
theorem w583 : Cond.codeWith yL_sings cL_sings 4 (some .int) [(0, 16, 19, 21)] ∈ allw := tw 485 (by decide +kernel) (by decide +kernel)
theorem w584 : Cond.static yL_sings ∈ allw := tw 484 (by decide +kernel) (by decide +kernel)
theorem w585 : Cond.methodLink RL 166 yX4_sings ∈ allw := tw 937 (by decide +kernel) (by decide +kernel)
theorem w586 : Cond.code yX4_sings cX4_sings 2 (some .boolean) ∈ allw := tw 940 (by decide +kernel) (by decide +kernel)
theorem w587 : Cond.instanceMethod yX4_sings ∈ allw := tw 938 (by decide +kernel) (by decide +kernel)
theorem w588 : Cond.selects RX4 yX4_sings yX4_sings ∈ allw := tw 939 (by decide +kernel) (by decide +kernel)
theorem w589 : Cond.methodLink RL 167 yL_set ∈ allw := tw 494 (by decide +kernel) (by decide +kernel)
theorem w590 : Cond.codeWith yL_set cL_set 5 (some .int) [(0, 10, 13, 21), (0, 10, 17, 13), (0, 10, 21, 23)] ∈ allw := tw 496 (by decide +kernel) (by decide +kernel)
theorem w591 : Cond.static yL_set ∈ allw := tw 495 (by decide +kernel) (by decide +kernel)
theorem w592 : Cond.methodLink RL 169 yX4_set ∈ allw := tw 945 (by decide +kernel) (by decide +kernel)
theorem w593 : Cond.code yX4_set cX4_set 4 (some .int) ∈ allw := tw 948 (by decide +kernel) (by decide +kernel)
theorem w594 : Cond.instanceMethod yX4_set ∈ allw := tw 946 (by decide +kernel) (by decide +kernel)
theorem w595 : Cond.selects RX4 yX4_set yX4_set ∈ allw := tw 947 (by decide +kernel) (by decide +kernel)
theorem w596 : Cond.methodLink RL 170 yL_kerf ∈ allw := tw 506 (by decide +kernel) (by decide +kernel)
theorem w597 : Cond.codeWith yL_kerf cL_kerf 4 (some .int) [(0, 9, 12, 21)] ∈ allw := tw 508 (by decide +kernel) (by decide +kernel)
theorem w598 : Cond.static yL_kerf ∈ allw := tw 507 (by decide +kernel) (by decide +kernel)
theorem w599 : Cond.methodLink RL 172 yX4_kerf ∈ allw := tw 949 (by decide +kernel) (by decide +kernel)
theorem w600 : Cond.code yX4_kerf cX4_kerf 2 (some .int) ∈ allw := tw 952 (by decide +kernel) (by decide +kernel)
theorem w601 : Cond.instanceMethod yX4_kerf ∈ allw := tw 950 (by decide +kernel) (by decide +kernel)
theorem w602 : Cond.selects RX4 yX4_kerf yX4_kerf ∈ allw := tw 951 (by decide +kernel) (by decide +kernel)
theorem w603 : Cond.methodLink RL 173 yL_gullets ∈ allw := tw 513 (by decide +kernel) (by decide +kernel)
theorem w604 : Cond.codeWith yL_gullets cL_gullets 4 (some .int) [(0, 9, 12, 21)] ∈ allw := tw 515 (by decide +kernel) (by decide +kernel)
theorem w605 : Cond.static yL_gullets ∈ allw := tw 514 (by decide +kernel) (by decide +kernel)
theorem w606 : Cond.methodLink RL 175 yX4_gullets ∈ allw := tw 953 (by decide +kernel) (by decide +kernel)
theorem w607 : Cond.code yX4_gullets cX4_gullets 2 (some .int) ∈ allw := tw 956 (by decide +kernel) (by decide +kernel)
theorem w608 : Cond.instanceMethod yX4_gullets ∈ allw := tw 954 (by decide +kernel) (by decide +kernel)
theorem w609 : Cond.selects RX4 yX4_gullets yX4_gullets ∈ allw := tw 955 (by decide +kernel) (by decide +kernel)
theorem w610 : Cond.methodLink RL 176 yL_thickness ∈ allw := tw 520 (by decide +kernel) (by decide +kernel)
theorem w611 : Cond.codeWith yL_thickness cL_thickness 4 (some .int) [(0, 9, 12, 21)] ∈ allw := tw 522 (by decide +kernel) (by decide +kernel)
theorem w612 : Cond.static yL_thickness ∈ allw := tw 521 (by decide +kernel) (by decide +kernel)
theorem w613 : Cond.methodLink RL 178 yX4_thickness ∈ allw := tw 961 (by decide +kernel) (by decide +kernel)
theorem w614 : Cond.code yX4_thickness cX4_thickness 2 (some .int) ∈ allw := tw 964 (by decide +kernel) (by decide +kernel)
theorem w615 : Cond.instanceMethod yX4_thickness ∈ allw := tw 962 (by decide +kernel) (by decide +kernel)
theorem w616 : Cond.selects RX4 yX4_thickness yX4_thickness ∈ allw := tw 963 (by decide +kernel) (by decide +kernel)
theorem w617 : Cond.methodLink RL 179 yL_state ∈ allw := tw 527 (by decide +kernel) (by decide +kernel)
theorem w618 : Cond.codeWith yL_state cL_state 4 (some .int) [(0, 9, 12, 21)] ∈ allw := tw 529 (by decide +kernel) (by decide +kernel)
theorem w619 : Cond.static yL_state ∈ allw := tw 528 (by decide +kernel) (by decide +kernel)
theorem w620 : Cond.methodLink RL 181 yX4_state ∈ allw := tw 965 (by decide +kernel) (by decide +kernel)
theorem w621 : Cond.code yX4_state cX4_state 2 (some .char) ∈ allw := tw 968 (by decide +kernel) (by decide +kernel)
theorem w622 : Cond.instanceMethod yX4_state ∈ allw := tw 966 (by decide +kernel) (by decide +kernel)
theorem w623 : Cond.selects RX4 yX4_state yX4_state ∈ allw := tw 967 (by decide +kernel) (by decide +kernel)
theorem w624 : Cond.methodLink RL 182 yL_harden ∈ allw := tw 534 (by decide +kernel) (by decide +kernel)
theorem w625 : Cond.codeWith yL_harden cL_harden 6 (some .int) [(0, 12, 15, 21), (0, 12, 19, 13), (0, 12, 23, 23)] ∈ allw := tw 536 (by decide +kernel) (by decide +kernel)
theorem w626 : Cond.static yL_harden ∈ allw := tw 535 (by decide +kernel) (by decide +kernel)
theorem w627 : Cond.methodLink RL 185 yX4_harden ∈ allw := tw 969 (by decide +kernel) (by decide +kernel)
theorem w628 : Cond.code yX4_harden cX4_harden 5 (some .int) ∈ allw := tw 972 (by decide +kernel) (by decide +kernel)
theorem w629 : Cond.instanceMethod yX4_harden ∈ allw := tw 970 (by decide +kernel) (by decide +kernel)
theorem w630 : Cond.selects RX4 yX4_harden yX4_harden ∈ allw := tw 971 (by decide +kernel) (by decide +kernel)
theorem w631 : Cond.methodLink RL 186 yL_hardness ∈ allw := tw 556 (by decide +kernel) (by decide +kernel)
theorem w632 : Cond.codeWith yL_hardness cL_hardness 4 (some .int) [(0, 9, 12, 21)] ∈ allw := tw 558 (by decide +kernel) (by decide +kernel)
theorem w633 : Cond.static yL_hardness ∈ allw := tw 557 (by decide +kernel) (by decide +kernel)
theorem w634 : Cond.methodLink RL 188 yX4_hardness ∈ allw := tw 978 (by decide +kernel) (by decide +kernel)
theorem w635 : Cond.code yX4_hardness cX4_hardness 2 (some .int) ∈ allw := tw 981 (by decide +kernel) (by decide +kernel)
theorem w636 : Cond.instanceMethod yX4_hardness ∈ allw := tw 979 (by decide +kernel) (by decide +kernel)
theorem w637 : Cond.selects RX4 yX4_hardness yX4_hardness ∈ allw := tw 980 (by decide +kernel) (by decide +kernel)
theorem w638 : Cond.methodLink RL 189 yL_bend ∈ allw := tw 563 (by decide +kernel) (by decide +kernel)
theorem w639 : Cond.codeWith yL_bend cL_bend 4 (some .int) [(0, 9, 12, 21)] ∈ allw := tw 565 (by decide +kernel) (by decide +kernel)
theorem w640 : Cond.static yL_bend ∈ allw := tw 564 (by decide +kernel) (by decide +kernel)
theorem w641 : Cond.methodLink RL 191 yX4_bend ∈ allw := tw 982 (by decide +kernel) (by decide +kernel)
theorem w642 : Cond.code yX4_bend cX4_bend 2 (some .int) ∈ allw := tw 985 (by decide +kernel) (by decide +kernel)
theorem w643 : Cond.instanceMethod yX4_bend ∈ allw := tw 983 (by decide +kernel) (by decide +kernel)
theorem w644 : Cond.selects RX4 yX4_bend yX4_bend ∈ allw := tw 984 (by decide +kernel) (by decide +kernel)
theorem w645 : Cond.methodLink RL 192 yL_temper ∈ allw := tw 570 (by decide +kernel) (by decide +kernel)
theorem w646 : Cond.codeWith yL_temper cL_temper 5 (some .int) [(0, 10, 13, 21), (0, 10, 17, 13), (0, 10, 21, 23)] ∈ allw := tw 572 (by decide +kernel) (by decide +kernel)
theorem w647 : Cond.static yL_temper ∈ allw := tw 571 (by decide +kernel) (by decide +kernel)
theorem w648 : Cond.methodLink RL 194 yX4_temper ∈ allw := tw 986 (by decide +kernel) (by decide +kernel)
theorem w649 : Cond.code yX4_temper cX4_temper 3 (some .int) ∈ allw := tw 989 (by decide +kernel) (by decide +kernel)
theorem w650 : Cond.instanceMethod yX4_temper ∈ allw := tw 987 (by decide +kernel) (by decide +kernel)
theorem w651 : Cond.selects RX4 yX4_temper yX4_temper ∈ allw := tw 988 (by decide +kernel) (by decide +kernel)
theorem w652 : Cond.methodLink RL 195 yL_straighten ∈ allw := tw 582 (by decide +kernel) (by decide +kernel)
theorem w653 : Cond.codeWith yL_straighten cL_straighten 5 (some .int) [(0, 10, 13, 21), (0, 10, 17, 13), (0, 10, 21, 23)] ∈ allw := tw 584 (by decide +kernel) (by decide +kernel)
theorem w654 : Cond.static yL_straighten ∈ allw := tw 583 (by decide +kernel) (by decide +kernel)
theorem w655 : Cond.methodLink RL 197 yX4_straighten ∈ allw := tw 990 (by decide +kernel) (by decide +kernel)
theorem w656 : Cond.code yX4_straighten cX4_straighten 3 (some .int) ∈ allw := tw 993 (by decide +kernel) (by decide +kernel)
theorem w657 : Cond.instanceMethod yX4_straighten ∈ allw := tw 991 (by decide +kernel) (by decide +kernel)
theorem w658 : Cond.selects RX4 yX4_straighten yX4_straighten ∈ allw := tw 992 (by decide +kernel) (by decide +kernel)
theorem w659 : Cond.methodLink RL 198 yL_seed ∈ allw := tw 590 (by decide +kernel) (by decide +kernel)
theorem w660 : Cond.codeWith yL_seed cL_seed 4 (some .int) [(0, 9, 12, 13)] ∈ allw := tw 592 (by decide +kernel) (by decide +kernel)
theorem w661 : Cond.static yL_seed ∈ allw := tw 591 (by decide +kernel) (by decide +kernel)
theorem w662 : Cond.methodLink RL 200 yX4_seed ∈ allw := tw 994 (by decide +kernel) (by decide +kernel)
theorem w663 : Cond.code yX4_seed cX4_seed 3 (some .int) ∈ allw := tw 997 (by decide +kernel) (by decide +kernel)
theorem w664 : Cond.instanceMethod yX4_seed ∈ allw := tw 995 (by decide +kernel) (by decide +kernel)
theorem w665 : Cond.selects RX4 yX4_seed yX4_seed ∈ allw := tw 996 (by decide +kernel) (by decide +kernel)
theorem w666 : Cond.methodLink RL 201 yL_strokes ∈ allw := tw 598 (by decide +kernel) (by decide +kernel)
theorem w667 : Cond.codeWith yL_strokes cL_strokes 6 (some .int) [(0, 12, 15, 21), (0, 12, 19, 13), (0, 12, 23, 23)] ∈ allw := tw 600 (by decide +kernel) (by decide +kernel)
theorem w668 : Cond.static yL_strokes ∈ allw := tw 599 (by decide +kernel) (by decide +kernel)
theorem w669 : Cond.methodLink RL 204 yX4_strokes ∈ allw := tw 999 (by decide +kernel) (by decide +kernel)
theorem w670 : Cond.code yX4_strokes cX4_strokes 6 (some .int) ∈ allw := tw 1002 (by decide +kernel) (by decide +kernel)
theorem w671 : Cond.instanceMethod yX4_strokes ∈ allw := tw 1000 (by decide +kernel) (by decide +kernel)
theorem w672 : Cond.selects RX4 yX4_strokes yX4_strokes ∈ allw := tw 1001 (by decide +kernel) (by decide +kernel)
theorem w673 : Cond.methodLink RL 205 yL_chips ∈ allw := tw 612 (by decide +kernel) (by decide +kernel)
theorem w674 : Cond.codeWith yL_chips cL_chips 4 (some .int) [(0, 9, 12, 21)] ∈ allw := tw 614 (by decide +kernel) (by decide +kernel)
theorem w675 : Cond.static yL_chips ∈ allw := tw 613 (by decide +kernel) (by decide +kernel)
theorem w676 : Cond.methodLink RL 207 yX4_chips ∈ allw := tw 1007 (by decide +kernel) (by decide +kernel)
theorem w677 : Cond.code yX4_chips cX4_chips 2 (some .int) ∈ allw := tw 1010 (by decide +kernel) (by decide +kernel)
theorem w678 : Cond.instanceMethod yX4_chips ∈ allw := tw 1008 (by decide +kernel) (by decide +kernel)
theorem w679 : Cond.selects RX4 yX4_chips yX4_chips ∈ allw := tw 1009 (by decide +kernel) (by decide +kernel)
theorem w680 : Cond.methodLink RL 208 yL_brush ∈ allw := tw 619 (by decide +kernel) (by decide +kernel)
theorem w681 : Cond.codeWith yL_brush cL_brush 4 (some .int) [(0, 9, 12, 21)] ∈ allw := tw 621 (by decide +kernel) (by decide +kernel)
theorem w682 : Cond.static yL_brush ∈ allw := tw 620 (by decide +kernel) (by decide +kernel)
theorem w683 : Cond.methodLink RL 210 yX4_brush ∈ allw := tw 1011 (by decide +kernel) (by decide +kernel)
theorem w684 : Cond.code yX4_brush cX4_brush 3 (some .int) ∈ allw := tw 1014 (by decide +kernel) (by decide +kernel)
theorem w685 : Cond.instanceMethod yX4_brush ∈ allw := tw 1012 (by decide +kernel) (by decide +kernel)
theorem w686 : Cond.selects RX4 yX4_brush yX4_brush ∈ allw := tw 1013 (by decide +kernel) (by decide +kernel)
theorem w687 : Cond.methodLink RL 211 yL_work ∈ allw := tw 626 (by decide +kernel) (by decide +kernel)
theorem w688 : Cond.codeWith yL_work cL_work 4 (some .int) [(0, 9, 12, 21)] ∈ allw := tw 628 (by decide +kernel) (by decide +kernel)
theorem w689 : Cond.static yL_work ∈ allw := tw 627 (by decide +kernel) (by decide +kernel)
theorem w690 : Cond.methodLink RL 213 yX4_work ∈ allw := tw 1015 (by decide +kernel) (by decide +kernel)
theorem w691 : Cond.code yX4_work cX4_work 2 (some .int) ∈ allw := tw 1018 (by decide +kernel) (by decide +kernel)
theorem w692 : Cond.instanceMethod yX4_work ∈ allw := tw 1016 (by decide +kernel) (by decide +kernel)
theorem w693 : Cond.selects RX4 yX4_work yX4_work ∈ allw := tw 1017 (by decide +kernel) (by decide +kernel)
theorem w694 : Cond.methodLink RL 214 yL_soften ∈ allw := tw 633 (by decide +kernel) (by decide +kernel)
theorem w695 : Cond.codeWith yL_soften cL_soften 4 (some .int) [(0, 9, 12, 21), (0, 9, 15, 23)] ∈ allw := tw 635 (by decide +kernel) (by decide +kernel)
theorem w696 : Cond.static yL_soften ∈ allw := tw 634 (by decide +kernel) (by decide +kernel)
theorem w697 : Cond.methodLink RL 216 yX4_soften ∈ allw := tw 1019 (by decide +kernel) (by decide +kernel)
theorem w698 : Cond.code yX4_soften cX4_soften 3 (some .int) ∈ allw := tw 1022 (by decide +kernel) (by decide +kernel)
theorem w699 : Cond.instanceMethod yX4_soften ∈ allw := tw 1020 (by decide +kernel) (by decide +kernel)
theorem w700 : Cond.selects RX4 yX4_soften yX4_soften ∈ allw := tw 1021 (by decide +kernel) (by decide +kernel)
theorem w701 : Cond.methodLink RL 217 yL_grind ∈ allw := tw 640 (by decide +kernel) (by decide +kernel)
theorem w702 : Cond.codeWith yL_grind cL_grind 4 (some .int) [(0, 9, 12, 21), (0, 9, 15, 23)] ∈ allw := tw 642 (by decide +kernel) (by decide +kernel)
theorem w703 : Cond.static yL_grind ∈ allw := tw 641 (by decide +kernel) (by decide +kernel)
theorem w704 : Cond.methodLink RL 219 yX4_grind ∈ allw := tw 1023 (by decide +kernel) (by decide +kernel)
theorem w705 : Cond.code yX4_grind cX4_grind 2 (some .int) ∈ allw := tw 1026 (by decide +kernel) (by decide +kernel)
theorem w706 : Cond.instanceMethod yX4_grind ∈ allw := tw 1024 (by decide +kernel) (by decide +kernel)
theorem w707 : Cond.selects RX4 yX4_grind yX4_grind ∈ allw := tw 1025 (by decide +kernel) (by decide +kernel)
theorem w708 : Cond.methodLink RL 220 yL_recuts ∈ allw := tw 661 (by decide +kernel) (by decide +kernel)
theorem w709 : Cond.codeWith yL_recuts cL_recuts 4 (some .int) [(0, 9, 12, 21)] ∈ allw := tw 663 (by decide +kernel) (by decide +kernel)
theorem w710 : Cond.static yL_recuts ∈ allw := tw 662 (by decide +kernel) (by decide +kernel)
theorem w711 : Cond.methodLink RL 222 yX4_recuts ∈ allw := tw 1027 (by decide +kernel) (by decide +kernel)
theorem w712 : Cond.code yX4_recuts cX4_recuts 2 (some .int) ∈ allw := tw 1030 (by decide +kernel) (by decide +kernel)
theorem w713 : Cond.instanceMethod yX4_recuts ∈ allw := tw 1028 (by decide +kernel) (by decide +kernel)
theorem w714 : Cond.selects RX4 yX4_recuts yX4_recuts ∈ allw := tw 1029 (by decide +kernel) (by decide +kernel)
theorem w715 : Cond.methodLink RL 223 yL_recutsLeft ∈ allw := tw 668 (by decide +kernel) (by decide +kernel)
theorem w716 : Cond.codeWith yL_recutsLeft cL_recutsLeft 5 (some .int) [(0, 10, 13, 21), (0, 10, 17, 13)] ∈ allw := tw 670 (by decide +kernel) (by decide +kernel)
theorem w717 : Cond.static yL_recutsLeft ∈ allw := tw 669 (by decide +kernel) (by decide +kernel)
theorem w718 : Cond.methodLink RL 226 yX4_recutsLeft ∈ allw := tw 1031 (by decide +kernel) (by decide +kernel)
theorem w719 : Cond.code yX4_recutsLeft cX4_recutsLeft 6 (some .int) ∈ allw := tw 1034 (by decide +kernel) (by decide +kernel)
theorem w720 : Cond.instanceMethod yX4_recutsLeft ∈ allw := tw 1032 (by decide +kernel) (by decide +kernel)
theorem w721 : Cond.selects RX4 yX4_recutsLeft yX4_recutsLeft ∈ allw := tw 1033 (by decide +kernel) (by decide +kernel)
theorem w722 : Cond.methodLink RL 227 yL_order ∈ allw := tw 675 (by decide +kernel) (by decide +kernel)
theorem w723 : Cond.codeWith yL_order cL_order 6 (some .int) [(0, 12, 15, 13), (0, 12, 19, 15)] ∈ allw := tw 677 (by decide +kernel) (by decide +kernel)
theorem w724 : Cond.static yL_order ∈ allw := tw 676 (by decide +kernel) (by decide +kernel)
theorem w725 : Cond.methodLink RL 230 yX4_order ∈ allw := tw 1035 (by decide +kernel) (by decide +kernel)
theorem w726 : Cond.code yX4_order cX4_order 4 (some .int) ∈ allw := tw 1038 (by decide +kernel) (by decide +kernel)
theorem w727 : Cond.instanceMethod yX4_order ∈ allw := tw 1036 (by decide +kernel) (by decide +kernel)
theorem w728 : Cond.selects RX4 yX4_order yX4_order ∈ allw := tw 1037 (by decide +kernel) (by decide +kernel)
theorem w729 : Cond.methodLink RL 231 yL_isGood ∈ allw := tw 702 (by decide +kernel) (by decide +kernel)
theorem w730 : Cond.codeWith yL_isGood cL_isGood 5 (some .int) [(0, 17, 20, 21)] ∈ allw := tw 704 (by decide +kernel) (by decide +kernel)
theorem w731 : Cond.static yL_isGood ∈ allw := tw 703 (by decide +kernel) (by decide +kernel)
theorem w732 : Cond.methodLink RL 233 yX4_isGood ∈ allw := tw 1039 (by decide +kernel) (by decide +kernel)
theorem w733 : Cond.code yX4_isGood cX4_isGood 3 (some .boolean) ∈ allw := tw 1042 (by decide +kernel) (by decide +kernel)
theorem w734 : Cond.instanceMethod yX4_isGood ∈ allw := tw 1040 (by decide +kernel) (by decide +kernel)
theorem w735 : Cond.selects RX4 yX4_isGood yX4_isGood ∈ allw := tw 1041 (by decide +kernel) (by decide +kernel)
theorem w736 : Cond.methodLink RL 234 yL_send ∈ allw := tw 727 (by decide +kernel) (by decide +kernel)
theorem w737 : Cond.codeWith yL_send cL_send 5 (some .int) [(0, 10, 13, 21), (0, 10, 17, 23)] ∈ allw := tw 729 (by decide +kernel) (by decide +kernel)
theorem w738 : Cond.static yL_send ∈ allw := tw 728 (by decide +kernel) (by decide +kernel)
theorem w739 : Cond.methodLink RL 236 yX4_send ∈ allw := tw 1063 (by decide +kernel) (by decide +kernel)
theorem w740 : Cond.code yX4_send cX4_send 3 (some .int) ∈ allw := tw 1066 (by decide +kernel) (by decide +kernel)
theorem w741 : Cond.instanceMethod yX4_send ∈ allw := tw 1064 (by decide +kernel) (by decide +kernel)
theorem w742 : Cond.selects RX4 yX4_send yX4_send ∈ allw := tw 1065 (by decide +kernel) (by decide +kernel)
theorem w743 : Cond.methodLink RL 237 yL_sent ∈ allw := tw 735 (by decide +kernel) (by decide +kernel)
theorem w744 : Cond.codeWith yL_sent cL_sent 4 (some .int) [(0, 9, 12, 21)] ∈ allw := tw 737 (by decide +kernel) (by decide +kernel)
theorem w745 : Cond.static yL_sent ∈ allw := tw 736 (by decide +kernel) (by decide +kernel)
theorem w746 : Cond.methodLink RL 239 yX4_sent ∈ allw := tw 1067 (by decide +kernel) (by decide +kernel)
theorem w747 : Cond.code yX4_sent cX4_sent 2 (some .int) ∈ allw := tw 1070 (by decide +kernel) (by decide +kernel)
theorem w748 : Cond.instanceMethod yX4_sent ∈ allw := tw 1068 (by decide +kernel) (by decide +kernel)
theorem w749 : Cond.selects RX4 yX4_sent yX4_sent ∈ allw := tw 1069 (by decide +kernel) (by decide +kernel)
theorem w750 : Cond.methodLink RL 240 yL_wornShare ∈ allw := tw 742 (by decide +kernel) (by decide +kernel)
theorem w751 : Cond.codeWith yL_wornShare cL_wornShare 3 (some .int) [(0, 8, 11, 127)] ∈ allw := tw 744 (by decide +kernel) (by decide +kernel)
theorem w752 : Cond.static yL_wornShare ∈ allw := tw 743 (by decide +kernel) (by decide +kernel)
theorem w753 : Cond.methodLink RL 243 yX4_wornShare ∈ allw := tw 1071 (by decide +kernel) (by decide +kernel)
theorem w754 : Cond.code yX4_wornShare cX4_wornShare 4 (some .float) ∈ allw := tw 1074 (by decide +kernel) (by decide +kernel)
theorem w755 : Cond.instanceMethod yX4_wornShare ∈ allw := tw 1072 (by decide +kernel) (by decide +kernel)
theorem w756 : Cond.selects RX4 yX4_wornShare yX4_wornShare ∈ allw := tw 1073 (by decide +kernel) (by decide +kernel)
theorem w757 : Cond.methodLink RL 244 yL_meanHardness ∈ allw := tw 770 (by decide +kernel) (by decide +kernel)
theorem w758 : Cond.codeWith yL_meanHardness cL_meanHardness 3 (some .int) [(0, 7, 10, 127)] ∈ allw := tw 772 (by decide +kernel) (by decide +kernel)
theorem w759 : Cond.static yL_meanHardness ∈ allw := tw 771 (by decide +kernel) (by decide +kernel)
theorem w760 : Cond.methodLink RL 246 yX4_meanHardness ∈ allw := tw 1075 (by decide +kernel) (by decide +kernel)
theorem w761 : Cond.code yX4_meanHardness cX4_meanHardness 5 (some .double) ∈ allw := tw 1078 (by decide +kernel) (by decide +kernel)
theorem w762 : Cond.instanceMethod yX4_meanHardness ∈ allw := tw 1076 (by decide +kernel) (by decide +kernel)
theorem w763 : Cond.selects RX4 yX4_meanHardness yX4_meanHardness ∈ allw := tw 1077 (by decide +kernel) (by decide +kernel)
theorem w764 : Cond.methodLink RL 247 yX3_checksum ∈ allw := tw 92 (by decide +kernel) (by decide +kernel)
theorem w765 : Cond.code yX3_checksum cX3_checksum 4 (some .long) ∈ allw := tw 95 (by decide +kernel) (by decide +kernel)
theorem w766 : Cond.instanceMethod yX3_checksum ∈ allw := tw 93 (by decide +kernel) (by decide +kernel)
theorem w767 : Cond.selects RX3 yX3_checksum yX3_checksum ∈ allw := tw 94 (by decide +kernel) (by decide +kernel)
theorem w768 : Cond.methodLink RL 251 yX4_checksum ∈ allw := tw 1079 (by decide +kernel) (by decide +kernel)
theorem w769 : Cond.code yX4_checksum cX4_checksum 5 (some .long) ∈ allw := tw 1082 (by decide +kernel) (by decide +kernel)
theorem w770 : Cond.instanceMethod yX4_checksum ∈ allw := tw 1080 (by decide +kernel) (by decide +kernel)
theorem w771 : Cond.selects RX4 yX4_checksum yX4_checksum ∈ allw := tw 1081 (by decide +kernel) (by decide +kernel)
theorem w772 : Cond.methodLink RL 252 yX3_isSound ∈ allw := tw 103 (by decide +kernel) (by decide +kernel)
theorem w773 : Cond.code yX3_isSound cX3_isSound 2 (some .boolean) ∈ allw := tw 106 (by decide +kernel) (by decide +kernel)
theorem w774 : Cond.instanceMethod yX3_isSound ∈ allw := tw 104 (by decide +kernel) (by decide +kernel)
theorem w775 : Cond.selects RX3 yX3_isSound yX3_isSound ∈ allw := tw 105 (by decide +kernel) (by decide +kernel)
theorem w776 : Cond.methodLink RL 256 yX4_isSound ∈ allw := tw 1085 (by decide +kernel) (by decide +kernel)
theorem w777 : Cond.code yX4_isSound cX4_isSound 1 (some .boolean) ∈ allw := tw 1088 (by decide +kernel) (by decide +kernel)
theorem w778 : Cond.instanceMethod yX4_isSound ∈ allw := tw 1086 (by decide +kernel) (by decide +kernel)
theorem w779 : Cond.selects RX4 yX4_isSound yX4_isSound ∈ allw := tw 1087 (by decide +kernel) (by decide +kernel)
section
variable {p : Program} {l : Launch} {e : Env} {s : State} {m : MethodId} {args : Array Value} {below : List Frame} {meth : Method} {c : Code} {D : va_G} {cy : Nat → ClassId} {n0 y0 y7 y12 y13 b N : Nat} {xs : Nat → Int32} {Qf : Unit → State → Prop}
theorem qc103 {R : Room} {s : State} {args : Array Value} (ht : ∀ w ∈ allw, w.before args s = true) (hR : (rmL_blank).frames + 1 ≤ R.frames ∧ 8 + (7 + 11) + (rmL_blank).locals ≤ R.locals) : vx_CSW R s args RL 137 yL_blank cL_blank 7 (some .int) [(0, 14, 17, 13), (0, 14, 21, 15)] (wh yL_blank cL_blank 7 (some .int) [(0, 14, 17, 13), (0, 14, 21, 15)]) rmL_blank 9 226 6 := vx_cwSW 6 ht (gd_of (fun _ h => h) _ (mS w532 w535 w534 w533)) rfl rfl rfl (by decide +kernel) hR
theorem qc104 {R : Room} {s : State} {args : Array Value} (ht : ∀ w ∈ allw, w.before args s = true) (hR : (rmX4_blank).frames + 1 ≤ R.frames ∧ 8 + (6 + 11) + (rmX4_blank).locals ≤ R.locals) : CallW R s args RL RX4 142 yX4_blank cX4_blank 6 (some .int) (wm yX4_blank cX4_blank 6 (some .int)) rmX4_blank 0 0 4 := cwV 4 ht (gd_of (fun _ h => h) _ (mV w536 w538 w539 w310 w537)) rfl rfl rfl (by decide +kernel) hR
theorem qc105 {R : Room} {s : State} {args : Array Value} (ht : ∀ w ∈ allw, w.before args s = true) (hR : (rmL_cut).frames + 1 ≤ R.frames ∧ 8 + (6 + 11) + (rmL_cut).locals ≤ R.locals) : vx_CSW R s args RL 143 yL_cut cL_cut 6 (some .int) [(0, 12, 15, 21), (0, 12, 19, 13), (0, 12, 23, 23)] (wh yL_cut cL_cut 6 (some .int) [(0, 12, 15, 21), (0, 12, 19, 13), (0, 12, 23, 23)]) rmL_cut 4 24 5 := vx_cwSW 5 ht (gd_of (fun _ h => h) _ (mS w540 w542 w534 w541)) rfl rfl rfl (by decide +kernel) hR
theorem qc106 {R : Room} {s : State} {args : Array Value} (ht : ∀ w ∈ allw, w.before args s = true) (hR : (rmX4_cut).frames + 1 ≤ R.frames ∧ 8 + (4 + 11) + (rmX4_cut).locals ≤ R.locals) : CallW R s args RL RX4 146 yX4_cut cX4_cut 4 (some .int) (wm yX4_cut cX4_cut 4 (some .int)) rmX4_cut 0 0 3 := cwV 3 ht (gd_of (fun _ h => h) _ (mV w543 w545 w546 w310 w544)) rfl rfl rfl (by decide +kernel) hR
theorem qc107 {R : Room} {s : State} {args : Array Value} (ht : ∀ w ∈ allw, w.before args s = true) (hR : (rmL_upcut).frames + 1 ≤ R.frames ∧ 8 + (4 + 11) + (rmL_upcut).locals ≤ R.locals) : vx_CSW R s args RL 147 yL_upcut cL_upcut 4 (some .int) [(0, 9, 12, 21), (0, 9, 15, 23)] (wh yL_upcut cL_upcut 4 (some .int) [(0, 9, 12, 21), (0, 9, 15, 23)]) rmL_upcut 2 12 3 := vx_cwSW 3 ht (gd_of (fun _ h => h) _ (mS w547 w549 w534 w548)) rfl rfl rfl (by decide +kernel) hR
theorem qc108 {R : Room} {s : State} {args : Array Value} (ht : ∀ w ∈ allw, w.before args s = true) (hR : (rmX4_upcut).frames + 1 ≤ R.frames ∧ 8 + (4 + 11) + (rmX4_upcut).locals ≤ R.locals) : CallW R s args RL RX4 150 yX4_upcut cX4_upcut 4 (some .int) (wm yX4_upcut cX4_upcut 4 (some .int)) rmX4_upcut 0 0 1 := cwV 1 ht (gd_of (fun _ h => h) _ (mV w550 w552 w553 w310 w551)) rfl rfl rfl (by decide +kernel) hR
theorem qc109 {R : Room} {s : State} {args : Array Value} (ht : ∀ w ∈ allw, w.before args s = true) (hR : (rmL_teeth).frames + 1 ≤ R.frames ∧ 8 + (4 + 11) + (rmL_teeth).locals ≤ R.locals) : vx_CSW R s args RL 151 yL_teeth cL_teeth 4 (some .int) [(0, 9, 12, 21)] (wh yL_teeth cL_teeth 4 (some .int) [(0, 9, 12, 21)]) rmL_teeth 1 6 3 := vx_cwSW 3 ht (gd_of (fun _ h => h) _ (mS w554 w556 w534 w555)) rfl rfl rfl (by decide +kernel) hR
theorem qc110 {R : Room} {s : State} {args : Array Value} (ht : ∀ w ∈ allw, w.before args s = true) (hR : (rmX4_teeth).frames + 1 ≤ R.frames ∧ 8 + (2 + 11) + (rmX4_teeth).locals ≤ R.locals) : CallW R s args RL RX4 153 yX4_teeth cX4_teeth 2 (some .int) (wm yX4_teeth cX4_teeth 2 (some .int)) rmX4_teeth 0 0 1 := cwV 1 ht (gd_of (fun _ h => h) _ (mV w557 w559 w560 w310 w558)) rfl rfl rfl (by decide +kernel) hR
theorem qc111 {R : Room} {s : State} {args : Array Value} (ht : ∀ w ∈ allw, w.before args s = true) (hR : (rmL_place).frames + 1 ≤ R.frames ∧ 8 + (5 + 11) + (rmL_place).locals ≤ R.locals) : vx_CSW R s args RL 154 yL_place cL_place 5 (some .int) [(0, 10, 13, 21), (0, 10, 17, 36)] (wh yL_place cL_place 5 (some .int) [(0, 10, 13, 21), (0, 10, 17, 36)]) rmL_place 2 12 4 := vx_cwSW 4 ht (gd_of (fun _ h => h) _ (mS w561 w563 w534 w562)) rfl rfl rfl (by decide +kernel) hR
theorem qc112 {R : Room} {s : State} {args : Array Value} (ht : ∀ w ∈ allw, w.before args s = true) (hR : (rmX4_place).frames + 1 ≤ R.frames ∧ 8 + (3 + 11) + (rmX4_place).locals ≤ R.locals) : CallW R s args RL RX4 157 yX4_place cX4_place 3 (some .int) (wm yX4_place cX4_place 3 (some .int)) rmX4_place 0 0 2 := cwV 2 ht (gd_of (fun _ h => h) _ (mV w564 w566 w567 w310 w565)) rfl rfl rfl (by decide +kernel) hR
theorem qc113 {R : Room} {s : State} {args : Array Value} (ht : ∀ w ∈ allw, w.before args s = true) (hR : (rmL_height).frames + 1 ≤ R.frames ∧ 8 + (5 + 11) + (rmL_height).locals ≤ R.locals) : vx_CSW R s args RL 158 yL_height cL_height 5 (some .int) [(0, 10, 13, 21), (0, 10, 17, 36)] (wh yL_height cL_height 5 (some .int) [(0, 10, 13, 21), (0, 10, 17, 36)]) rmL_height 2 12 4 := vx_cwSW 4 ht (gd_of (fun _ h => h) _ (mS w568 w570 w534 w569)) rfl rfl rfl (by decide +kernel) hR
theorem qc114 {R : Room} {s : State} {args : Array Value} (ht : ∀ w ∈ allw, w.before args s = true) (hR : (rmX4_height).frames + 1 ≤ R.frames ∧ 8 + (3 + 11) + (rmX4_height).locals ≤ R.locals) : CallW R s args RL RX4 160 yX4_height cX4_height 3 (some .int) (wm yX4_height cX4_height 3 (some .int)) rmX4_height 0 0 2 := cwV 2 ht (gd_of (fun _ h => h) _ (mV w571 w573 w574 w310 w572)) rfl rfl rfl (by decide +kernel) hR
theorem qc115 {R : Room} {s : State} {args : Array Value} (ht : ∀ w ∈ allw, w.before args s = true) (hR : (rmL_wear).frames + 1 ≤ R.frames ∧ 8 + (5 + 11) + (rmL_wear).locals ≤ R.locals) : vx_CSW R s args RL 161 yL_wear cL_wear 5 (some .int) [(0, 10, 13, 21), (0, 10, 17, 36)] (wh yL_wear cL_wear 5 (some .int) [(0, 10, 13, 21), (0, 10, 17, 36)]) rmL_wear 2 12 4 := vx_cwSW 4 ht (gd_of (fun _ h => h) _ (mS w575 w577 w534 w576)) rfl rfl rfl (by decide +kernel) hR
theorem qc116 {R : Room} {s : State} {args : Array Value} (ht : ∀ w ∈ allw, w.before args s = true) (hR : (rmX4_wear).frames + 1 ≤ R.frames ∧ 8 + (3 + 11) + (rmX4_wear).locals ≤ R.locals) : CallW R s args RL RX4 163 yX4_wear cX4_wear 3 (some .int) (wm yX4_wear cX4_wear 3 (some .int)) rmX4_wear 0 0 2 := cwV 2 ht (gd_of (fun _ h => h) _ (mV w578 w580 w581 w310 w579)) rfl rfl rfl (by decide +kernel) hR
theorem qc117 {R : Room} {s : State} {args : Array Value} (ht : ∀ w ∈ allw, w.before args s = true) (hR : (rmL_sings).frames + 1 ≤ R.frames ∧ 8 + (4 + 11) + (rmL_sings).locals ≤ R.locals) : vx_CSW R s args RL 164 yL_sings cL_sings 4 (some .int) [(0, 16, 19, 21)] (wh yL_sings cL_sings 4 (some .int) [(0, 16, 19, 21)]) rmL_sings 1 6 3 := vx_cwSW 3 ht (gd_of (fun _ h => h) _ (mS w582 w584 w534 w583)) rfl rfl rfl (by decide +kernel) hR
theorem qc118 {R : Room} {s : State} {args : Array Value} (ht : ∀ w ∈ allw, w.before args s = true) (hR : (rmX4_sings).frames + 1 ≤ R.frames ∧ 8 + (2 + 11) + (rmX4_sings).locals ≤ R.locals) : CallW R s args RL RX4 166 yX4_sings cX4_sings 2 (some .boolean) (wm yX4_sings cX4_sings 2 (some .boolean)) rmX4_sings 0 0 1 := cwV 1 ht (gd_of (fun _ h => h) _ (mV w585 w587 w588 w310 w586)) rfl rfl rfl (by decide +kernel) hR
theorem qc119 {R : Room} {s : State} {args : Array Value} (ht : ∀ w ∈ allw, w.before args s = true) (hR : (rmL_set).frames + 1 ≤ R.frames ∧ 8 + (5 + 11) + (rmL_set).locals ≤ R.locals) : vx_CSW R s args RL 167 yL_set cL_set 5 (some .int) [(0, 10, 13, 21), (0, 10, 17, 13), (0, 10, 21, 23)] (wh yL_set cL_set 5 (some .int) [(0, 10, 13, 21), (0, 10, 17, 13), (0, 10, 21, 23)]) rmL_set 3 18 4 := vx_cwSW 4 ht (gd_of (fun _ h => h) _ (mS w589 w591 w534 w590)) rfl rfl rfl (by decide +kernel) hR
theorem qc120 {R : Room} {s : State} {args : Array Value} (ht : ∀ w ∈ allw, w.before args s = true) (hR : (rmX4_set).frames + 1 ≤ R.frames ∧ 8 + (4 + 11) + (rmX4_set).locals ≤ R.locals) : CallW R s args RL RX4 169 yX4_set cX4_set 4 (some .int) (wm yX4_set cX4_set 4 (some .int)) rmX4_set 0 0 2 := cwV 2 ht (gd_of (fun _ h => h) _ (mV w592 w594 w595 w310 w593)) rfl rfl rfl (by decide +kernel) hR
theorem qc121 {R : Room} {s : State} {args : Array Value} (ht : ∀ w ∈ allw, w.before args s = true) (hR : (rmL_kerf).frames + 1 ≤ R.frames ∧ 8 + (4 + 11) + (rmL_kerf).locals ≤ R.locals) : vx_CSW R s args RL 170 yL_kerf cL_kerf 4 (some .int) [(0, 9, 12, 21)] (wh yL_kerf cL_kerf 4 (some .int) [(0, 9, 12, 21)]) rmL_kerf 1 6 3 := vx_cwSW 3 ht (gd_of (fun _ h => h) _ (mS w596 w598 w534 w597)) rfl rfl rfl (by decide +kernel) hR
theorem qc122 {R : Room} {s : State} {args : Array Value} (ht : ∀ w ∈ allw, w.before args s = true) (hR : (rmX4_kerf).frames + 1 ≤ R.frames ∧ 8 + (2 + 11) + (rmX4_kerf).locals ≤ R.locals) : CallW R s args RL RX4 172 yX4_kerf cX4_kerf 2 (some .int) (wm yX4_kerf cX4_kerf 2 (some .int)) rmX4_kerf 0 0 1 := cwV 1 ht (gd_of (fun _ h => h) _ (mV w599 w601 w602 w310 w600)) rfl rfl rfl (by decide +kernel) hR
theorem qc123 {R : Room} {s : State} {args : Array Value} (ht : ∀ w ∈ allw, w.before args s = true) (hR : (rmL_gullets).frames + 1 ≤ R.frames ∧ 8 + (4 + 11) + (rmL_gullets).locals ≤ R.locals) : vx_CSW R s args RL 173 yL_gullets cL_gullets 4 (some .int) [(0, 9, 12, 21)] (wh yL_gullets cL_gullets 4 (some .int) [(0, 9, 12, 21)]) rmL_gullets 1 6 3 := vx_cwSW 3 ht (gd_of (fun _ h => h) _ (mS w603 w605 w534 w604)) rfl rfl rfl (by decide +kernel) hR
theorem qc124 {R : Room} {s : State} {args : Array Value} (ht : ∀ w ∈ allw, w.before args s = true) (hR : (rmX4_gullets).frames + 1 ≤ R.frames ∧ 8 + (2 + 11) + (rmX4_gullets).locals ≤ R.locals) : CallW R s args RL RX4 175 yX4_gullets cX4_gullets 2 (some .int) (wm yX4_gullets cX4_gullets 2 (some .int)) rmX4_gullets 0 0 1 := cwV 1 ht (gd_of (fun _ h => h) _ (mV w606 w608 w609 w310 w607)) rfl rfl rfl (by decide +kernel) hR
theorem qc125 {R : Room} {s : State} {args : Array Value} (ht : ∀ w ∈ allw, w.before args s = true) (hR : (rmL_thickness).frames + 1 ≤ R.frames ∧ 8 + (4 + 11) + (rmL_thickness).locals ≤ R.locals) : vx_CSW R s args RL 176 yL_thickness cL_thickness 4 (some .int) [(0, 9, 12, 21)] (wh yL_thickness cL_thickness 4 (some .int) [(0, 9, 12, 21)]) rmL_thickness 1 6 3 := vx_cwSW 3 ht (gd_of (fun _ h => h) _ (mS w610 w612 w534 w611)) rfl rfl rfl (by decide +kernel) hR
theorem qc126 {R : Room} {s : State} {args : Array Value} (ht : ∀ w ∈ allw, w.before args s = true) (hR : (rmX4_thickness).frames + 1 ≤ R.frames ∧ 8 + (2 + 11) + (rmX4_thickness).locals ≤ R.locals) : CallW R s args RL RX4 178 yX4_thickness cX4_thickness 2 (some .int) (wm yX4_thickness cX4_thickness 2 (some .int)) rmX4_thickness 0 0 1 := cwV 1 ht (gd_of (fun _ h => h) _ (mV w613 w615 w616 w310 w614)) rfl rfl rfl (by decide +kernel) hR
theorem qc127 {R : Room} {s : State} {args : Array Value} (ht : ∀ w ∈ allw, w.before args s = true) (hR : (rmL_state).frames + 1 ≤ R.frames ∧ 8 + (4 + 11) + (rmL_state).locals ≤ R.locals) : vx_CSW R s args RL 179 yL_state cL_state 4 (some .int) [(0, 9, 12, 21)] (wh yL_state cL_state 4 (some .int) [(0, 9, 12, 21)]) rmL_state 1 6 3 := vx_cwSW 3 ht (gd_of (fun _ h => h) _ (mS w617 w619 w534 w618)) rfl rfl rfl (by decide +kernel) hR
theorem qc128 {R : Room} {s : State} {args : Array Value} (ht : ∀ w ∈ allw, w.before args s = true) (hR : (rmX4_state).frames + 1 ≤ R.frames ∧ 8 + (2 + 11) + (rmX4_state).locals ≤ R.locals) : CallW R s args RL RX4 181 yX4_state cX4_state 2 (some .char) (wm yX4_state cX4_state 2 (some .char)) rmX4_state 0 0 1 := cwV 1 ht (gd_of (fun _ h => h) _ (mV w620 w622 w623 w310 w621)) rfl rfl rfl (by decide +kernel) hR
theorem qc129 {R : Room} {s : State} {args : Array Value} (ht : ∀ w ∈ allw, w.before args s = true) (hR : (rmL_harden).frames + 1 ≤ R.frames ∧ 8 + (6 + 11) + (rmL_harden).locals ≤ R.locals) : vx_CSW R s args RL 182 yL_harden cL_harden 6 (some .int) [(0, 12, 15, 21), (0, 12, 19, 13), (0, 12, 23, 23)] (wh yL_harden cL_harden 6 (some .int) [(0, 12, 15, 21), (0, 12, 19, 13), (0, 12, 23, 23)]) rmL_harden 4 24 5 := vx_cwSW 5 ht (gd_of (fun _ h => h) _ (mS w624 w626 w534 w625)) rfl rfl rfl (by decide +kernel) hR
theorem qc130 {R : Room} {s : State} {args : Array Value} (ht : ∀ w ∈ allw, w.before args s = true) (hR : (rmX4_harden).frames + 1 ≤ R.frames ∧ 8 + (5 + 11) + (rmX4_harden).locals ≤ R.locals) : CallW R s args RL RX4 185 yX4_harden cX4_harden 5 (some .int) (wm yX4_harden cX4_harden 5 (some .int)) rmX4_harden 0 0 3 := cwV 3 ht (gd_of (fun _ h => h) _ (mV w627 w629 w630 w310 w628)) rfl rfl rfl (by decide +kernel) hR
theorem qc131 {R : Room} {s : State} {args : Array Value} (ht : ∀ w ∈ allw, w.before args s = true) (hR : (rmL_hardness).frames + 1 ≤ R.frames ∧ 8 + (4 + 11) + (rmL_hardness).locals ≤ R.locals) : vx_CSW R s args RL 186 yL_hardness cL_hardness 4 (some .int) [(0, 9, 12, 21)] (wh yL_hardness cL_hardness 4 (some .int) [(0, 9, 12, 21)]) rmL_hardness 1 6 3 := vx_cwSW 3 ht (gd_of (fun _ h => h) _ (mS w631 w633 w534 w632)) rfl rfl rfl (by decide +kernel) hR
theorem qc132 {R : Room} {s : State} {args : Array Value} (ht : ∀ w ∈ allw, w.before args s = true) (hR : (rmX4_hardness).frames + 1 ≤ R.frames ∧ 8 + (2 + 11) + (rmX4_hardness).locals ≤ R.locals) : CallW R s args RL RX4 188 yX4_hardness cX4_hardness 2 (some .int) (wm yX4_hardness cX4_hardness 2 (some .int)) rmX4_hardness 0 0 1 := cwV 1 ht (gd_of (fun _ h => h) _ (mV w634 w636 w637 w310 w635)) rfl rfl rfl (by decide +kernel) hR
theorem qc133 {R : Room} {s : State} {args : Array Value} (ht : ∀ w ∈ allw, w.before args s = true) (hR : (rmL_bend).frames + 1 ≤ R.frames ∧ 8 + (4 + 11) + (rmL_bend).locals ≤ R.locals) : vx_CSW R s args RL 189 yL_bend cL_bend 4 (some .int) [(0, 9, 12, 21)] (wh yL_bend cL_bend 4 (some .int) [(0, 9, 12, 21)]) rmL_bend 1 6 3 := vx_cwSW 3 ht (gd_of (fun _ h => h) _ (mS w638 w640 w534 w639)) rfl rfl rfl (by decide +kernel) hR
theorem qc134 {R : Room} {s : State} {args : Array Value} (ht : ∀ w ∈ allw, w.before args s = true) (hR : (rmX4_bend).frames + 1 ≤ R.frames ∧ 8 + (2 + 11) + (rmX4_bend).locals ≤ R.locals) : CallW R s args RL RX4 191 yX4_bend cX4_bend 2 (some .int) (wm yX4_bend cX4_bend 2 (some .int)) rmX4_bend 0 0 1 := cwV 1 ht (gd_of (fun _ h => h) _ (mV w641 w643 w644 w310 w642)) rfl rfl rfl (by decide +kernel) hR
theorem qc135 {R : Room} {s : State} {args : Array Value} (ht : ∀ w ∈ allw, w.before args s = true) (hR : (rmL_temper).frames + 1 ≤ R.frames ∧ 8 + (5 + 11) + (rmL_temper).locals ≤ R.locals) : vx_CSW R s args RL 192 yL_temper cL_temper 5 (some .int) [(0, 10, 13, 21), (0, 10, 17, 13), (0, 10, 21, 23)] (wh yL_temper cL_temper 5 (some .int) [(0, 10, 13, 21), (0, 10, 17, 13), (0, 10, 21, 23)]) rmL_temper 3 18 4 := vx_cwSW 4 ht (gd_of (fun _ h => h) _ (mS w645 w647 w534 w646)) rfl rfl rfl (by decide +kernel) hR
theorem qc136 {R : Room} {s : State} {args : Array Value} (ht : ∀ w ∈ allw, w.before args s = true) (hR : (rmX4_temper).frames + 1 ≤ R.frames ∧ 8 + (3 + 11) + (rmX4_temper).locals ≤ R.locals) : CallW R s args RL RX4 194 yX4_temper cX4_temper 3 (some .int) (wm yX4_temper cX4_temper 3 (some .int)) rmX4_temper 0 0 2 := cwV 2 ht (gd_of (fun _ h => h) _ (mV w648 w650 w651 w310 w649)) rfl rfl rfl (by decide +kernel) hR
theorem qc137 {R : Room} {s : State} {args : Array Value} (ht : ∀ w ∈ allw, w.before args s = true) (hR : (rmL_straighten).frames + 1 ≤ R.frames ∧ 8 + (5 + 11) + (rmL_straighten).locals ≤ R.locals) : vx_CSW R s args RL 195 yL_straighten cL_straighten 5 (some .int) [(0, 10, 13, 21), (0, 10, 17, 13), (0, 10, 21, 23)] (wh yL_straighten cL_straighten 5 (some .int) [(0, 10, 13, 21), (0, 10, 17, 13), (0, 10, 21, 23)]) rmL_straighten 3 18 4 := vx_cwSW 4 ht (gd_of (fun _ h => h) _ (mS w652 w654 w534 w653)) rfl rfl rfl (by decide +kernel) hR
theorem qc138 {R : Room} {s : State} {args : Array Value} (ht : ∀ w ∈ allw, w.before args s = true) (hR : (rmX4_straighten).frames + 1 ≤ R.frames ∧ 8 + (3 + 11) + (rmX4_straighten).locals ≤ R.locals) : CallW R s args RL RX4 197 yX4_straighten cX4_straighten 3 (some .int) (wm yX4_straighten cX4_straighten 3 (some .int)) rmX4_straighten 0 0 2 := cwV 2 ht (gd_of (fun _ h => h) _ (mV w655 w657 w658 w310 w656)) rfl rfl rfl (by decide +kernel) hR
theorem qc139 {R : Room} {s : State} {args : Array Value} (ht : ∀ w ∈ allw, w.before args s = true) (hR : (rmL_seed).frames + 1 ≤ R.frames ∧ 8 + (4 + 11) + (rmL_seed).locals ≤ R.locals) : vx_CSW R s args RL 198 yL_seed cL_seed 4 (some .int) [(0, 9, 12, 13)] (wh yL_seed cL_seed 4 (some .int) [(0, 9, 12, 13)]) rmL_seed 1 6 3 := vx_cwSW 3 ht (gd_of (fun _ h => h) _ (mS w659 w661 w534 w660)) rfl rfl rfl (by decide +kernel) hR
theorem qc140 {R : Room} {s : State} {args : Array Value} (ht : ∀ w ∈ allw, w.before args s = true) (hR : (rmX4_seed).frames + 1 ≤ R.frames ∧ 8 + (3 + 11) + (rmX4_seed).locals ≤ R.locals) : CallW R s args RL RX4 200 yX4_seed cX4_seed 3 (some .int) (wm yX4_seed cX4_seed 3 (some .int)) rmX4_seed 0 0 1 := cwV 1 ht (gd_of (fun _ h => h) _ (mV w662 w664 w665 w310 w663)) rfl rfl rfl (by decide +kernel) hR
theorem qc141 {R : Room} {s : State} {args : Array Value} (ht : ∀ w ∈ allw, w.before args s = true) (hR : (rmL_strokes).frames + 1 ≤ R.frames ∧ 8 + (6 + 11) + (rmL_strokes).locals ≤ R.locals) : vx_CSW R s args RL 201 yL_strokes cL_strokes 6 (some .int) [(0, 12, 15, 21), (0, 12, 19, 13), (0, 12, 23, 23)] (wh yL_strokes cL_strokes 6 (some .int) [(0, 12, 15, 21), (0, 12, 19, 13), (0, 12, 23, 23)]) rmL_strokes 4 24 5 := vx_cwSW 5 ht (gd_of (fun _ h => h) _ (mS w666 w668 w534 w667)) rfl rfl rfl (by decide +kernel) hR
theorem qc142 {R : Room} {s : State} {args : Array Value} (ht : ∀ w ∈ allw, w.before args s = true) (hR : (rmX4_strokes).frames + 1 ≤ R.frames ∧ 8 + (6 + 11) + (rmX4_strokes).locals ≤ R.locals) : CallW R s args RL RX4 204 yX4_strokes cX4_strokes 6 (some .int) (wm yX4_strokes cX4_strokes 6 (some .int)) rmX4_strokes 0 0 3 := cwV 3 ht (gd_of (fun _ h => h) _ (mV w669 w671 w672 w310 w670)) rfl rfl rfl (by decide +kernel) hR
theorem qc143 {R : Room} {s : State} {args : Array Value} (ht : ∀ w ∈ allw, w.before args s = true) (hR : (rmL_chips).frames + 1 ≤ R.frames ∧ 8 + (4 + 11) + (rmL_chips).locals ≤ R.locals) : vx_CSW R s args RL 205 yL_chips cL_chips 4 (some .int) [(0, 9, 12, 21)] (wh yL_chips cL_chips 4 (some .int) [(0, 9, 12, 21)]) rmL_chips 1 6 3 := vx_cwSW 3 ht (gd_of (fun _ h => h) _ (mS w673 w675 w534 w674)) rfl rfl rfl (by decide +kernel) hR
theorem qc144 {R : Room} {s : State} {args : Array Value} (ht : ∀ w ∈ allw, w.before args s = true) (hR : (rmX4_chips).frames + 1 ≤ R.frames ∧ 8 + (2 + 11) + (rmX4_chips).locals ≤ R.locals) : CallW R s args RL RX4 207 yX4_chips cX4_chips 2 (some .int) (wm yX4_chips cX4_chips 2 (some .int)) rmX4_chips 0 0 1 := cwV 1 ht (gd_of (fun _ h => h) _ (mV w676 w678 w679 w310 w677)) rfl rfl rfl (by decide +kernel) hR
theorem qc145 {R : Room} {s : State} {args : Array Value} (ht : ∀ w ∈ allw, w.before args s = true) (hR : (rmL_brush).frames + 1 ≤ R.frames ∧ 8 + (4 + 11) + (rmL_brush).locals ≤ R.locals) : vx_CSW R s args RL 208 yL_brush cL_brush 4 (some .int) [(0, 9, 12, 21)] (wh yL_brush cL_brush 4 (some .int) [(0, 9, 12, 21)]) rmL_brush 1 6 3 := vx_cwSW 3 ht (gd_of (fun _ h => h) _ (mS w680 w682 w534 w681)) rfl rfl rfl (by decide +kernel) hR
theorem qc146 {R : Room} {s : State} {args : Array Value} (ht : ∀ w ∈ allw, w.before args s = true) (hR : (rmX4_brush).frames + 1 ≤ R.frames ∧ 8 + (3 + 11) + (rmX4_brush).locals ≤ R.locals) : CallW R s args RL RX4 210 yX4_brush cX4_brush 3 (some .int) (wm yX4_brush cX4_brush 3 (some .int)) rmX4_brush 0 0 1 := cwV 1 ht (gd_of (fun _ h => h) _ (mV w683 w685 w686 w310 w684)) rfl rfl rfl (by decide +kernel) hR
theorem qc147 {R : Room} {s : State} {args : Array Value} (ht : ∀ w ∈ allw, w.before args s = true) (hR : (rmL_work).frames + 1 ≤ R.frames ∧ 8 + (4 + 11) + (rmL_work).locals ≤ R.locals) : vx_CSW R s args RL 211 yL_work cL_work 4 (some .int) [(0, 9, 12, 21)] (wh yL_work cL_work 4 (some .int) [(0, 9, 12, 21)]) rmL_work 1 6 3 := vx_cwSW 3 ht (gd_of (fun _ h => h) _ (mS w687 w689 w534 w688)) rfl rfl rfl (by decide +kernel) hR
theorem qc148 {R : Room} {s : State} {args : Array Value} (ht : ∀ w ∈ allw, w.before args s = true) (hR : (rmX4_work).frames + 1 ≤ R.frames ∧ 8 + (2 + 11) + (rmX4_work).locals ≤ R.locals) : CallW R s args RL RX4 213 yX4_work cX4_work 2 (some .int) (wm yX4_work cX4_work 2 (some .int)) rmX4_work 0 0 1 := cwV 1 ht (gd_of (fun _ h => h) _ (mV w690 w692 w693 w310 w691)) rfl rfl rfl (by decide +kernel) hR
theorem qc149 {R : Room} {s : State} {args : Array Value} (ht : ∀ w ∈ allw, w.before args s = true) (hR : (rmL_soften).frames + 1 ≤ R.frames ∧ 8 + (4 + 11) + (rmL_soften).locals ≤ R.locals) : vx_CSW R s args RL 214 yL_soften cL_soften 4 (some .int) [(0, 9, 12, 21), (0, 9, 15, 23)] (wh yL_soften cL_soften 4 (some .int) [(0, 9, 12, 21), (0, 9, 15, 23)]) rmL_soften 2 12 3 := vx_cwSW 3 ht (gd_of (fun _ h => h) _ (mS w694 w696 w534 w695)) rfl rfl rfl (by decide +kernel) hR
theorem qc150 {R : Room} {s : State} {args : Array Value} (ht : ∀ w ∈ allw, w.before args s = true) (hR : (rmX4_soften).frames + 1 ≤ R.frames ∧ 8 + (3 + 11) + (rmX4_soften).locals ≤ R.locals) : CallW R s args RL RX4 216 yX4_soften cX4_soften 3 (some .int) (wm yX4_soften cX4_soften 3 (some .int)) rmX4_soften 0 0 1 := cwV 1 ht (gd_of (fun _ h => h) _ (mV w697 w699 w700 w310 w698)) rfl rfl rfl (by decide +kernel) hR
theorem qc151 {R : Room} {s : State} {args : Array Value} (ht : ∀ w ∈ allw, w.before args s = true) (hR : (rmL_grind).frames + 1 ≤ R.frames ∧ 8 + (4 + 11) + (rmL_grind).locals ≤ R.locals) : vx_CSW R s args RL 217 yL_grind cL_grind 4 (some .int) [(0, 9, 12, 21), (0, 9, 15, 23)] (wh yL_grind cL_grind 4 (some .int) [(0, 9, 12, 21), (0, 9, 15, 23)]) rmL_grind 2 12 3 := vx_cwSW 3 ht (gd_of (fun _ h => h) _ (mS w701 w703 w534 w702)) rfl rfl rfl (by decide +kernel) hR
theorem qc152 {R : Room} {s : State} {args : Array Value} (ht : ∀ w ∈ allw, w.before args s = true) (hR : (rmX4_grind).frames + 1 ≤ R.frames ∧ 8 + (2 + 11) + (rmX4_grind).locals ≤ R.locals) : CallW R s args RL RX4 219 yX4_grind cX4_grind 2 (some .int) (wm yX4_grind cX4_grind 2 (some .int)) rmX4_grind 0 0 1 := cwV 1 ht (gd_of (fun _ h => h) _ (mV w704 w706 w707 w310 w705)) rfl rfl rfl (by decide +kernel) hR
theorem qc153 {R : Room} {s : State} {args : Array Value} (ht : ∀ w ∈ allw, w.before args s = true) (hR : (rmL_recuts).frames + 1 ≤ R.frames ∧ 8 + (4 + 11) + (rmL_recuts).locals ≤ R.locals) : vx_CSW R s args RL 220 yL_recuts cL_recuts 4 (some .int) [(0, 9, 12, 21)] (wh yL_recuts cL_recuts 4 (some .int) [(0, 9, 12, 21)]) rmL_recuts 1 6 3 := vx_cwSW 3 ht (gd_of (fun _ h => h) _ (mS w708 w710 w534 w709)) rfl rfl rfl (by decide +kernel) hR
theorem qc154 {R : Room} {s : State} {args : Array Value} (ht : ∀ w ∈ allw, w.before args s = true) (hR : (rmX4_recuts).frames + 1 ≤ R.frames ∧ 8 + (2 + 11) + (rmX4_recuts).locals ≤ R.locals) : CallW R s args RL RX4 222 yX4_recuts cX4_recuts 2 (some .int) (wm yX4_recuts cX4_recuts 2 (some .int)) rmX4_recuts 0 0 1 := cwV 1 ht (gd_of (fun _ h => h) _ (mV w711 w713 w714 w310 w712)) rfl rfl rfl (by decide +kernel) hR
theorem qc155 {R : Room} {s : State} {args : Array Value} (ht : ∀ w ∈ allw, w.before args s = true) (hR : (rmL_recutsLeft).frames + 1 ≤ R.frames ∧ 8 + (5 + 11) + (rmL_recutsLeft).locals ≤ R.locals) : vx_CSW R s args RL 223 yL_recutsLeft cL_recutsLeft 5 (some .int) [(0, 10, 13, 21), (0, 10, 17, 13)] (wh yL_recutsLeft cL_recutsLeft 5 (some .int) [(0, 10, 13, 21), (0, 10, 17, 13)]) rmL_recutsLeft 2 12 4 := vx_cwSW 4 ht (gd_of (fun _ h => h) _ (mS w715 w717 w534 w716)) rfl rfl rfl (by decide +kernel) hR
theorem qc156 {R : Room} {s : State} {args : Array Value} (ht : ∀ w ∈ allw, w.before args s = true) (hR : (rmX4_recutsLeft).frames + 1 ≤ R.frames ∧ 8 + (6 + 11) + (rmX4_recutsLeft).locals ≤ R.locals) : CallW R s args RL RX4 226 yX4_recutsLeft cX4_recutsLeft 6 (some .int) (wm yX4_recutsLeft cX4_recutsLeft 6 (some .int)) rmX4_recutsLeft 0 0 2 := cwV 2 ht (gd_of (fun _ h => h) _ (mV w718 w720 w721 w310 w719)) rfl rfl rfl (by decide +kernel) hR
theorem qc157 {R : Room} {s : State} {args : Array Value} (ht : ∀ w ∈ allw, w.before args s = true) (hR : (rmL_order).frames + 1 ≤ R.frames ∧ 8 + (6 + 11) + (rmL_order).locals ≤ R.locals) : vx_CSW R s args RL 227 yL_order cL_order 6 (some .int) [(0, 12, 15, 13), (0, 12, 19, 15)] (wh yL_order cL_order 6 (some .int) [(0, 12, 15, 13), (0, 12, 19, 15)]) rmL_order 4 24 5 := vx_cwSW 5 ht (gd_of (fun _ h => h) _ (mS w722 w724 w534 w723)) rfl rfl rfl (by decide +kernel) hR
theorem qc158 {R : Room} {s : State} {args : Array Value} (ht : ∀ w ∈ allw, w.before args s = true) (hR : (rmX4_order).frames + 1 ≤ R.frames ∧ 8 + (4 + 11) + (rmX4_order).locals ≤ R.locals) : CallW R s args RL RX4 230 yX4_order cX4_order 4 (some .int) (wm yX4_order cX4_order 4 (some .int)) rmX4_order 0 0 3 := cwV 3 ht (gd_of (fun _ h => h) _ (mV w725 w727 w728 w310 w726)) rfl rfl rfl (by decide +kernel) hR
theorem qc159 {R : Room} {s : State} {args : Array Value} (ht : ∀ w ∈ allw, w.before args s = true) (hR : (rmL_isGood).frames + 1 ≤ R.frames ∧ 8 + (5 + 11) + (rmL_isGood).locals ≤ R.locals) : vx_CSW R s args RL 231 yL_isGood cL_isGood 5 (some .int) [(0, 17, 20, 21)] (wh yL_isGood cL_isGood 5 (some .int) [(0, 17, 20, 21)]) rmL_isGood 2 12 4 := vx_cwSW 4 ht (gd_of (fun _ h => h) _ (mS w729 w731 w534 w730)) rfl rfl rfl (by decide +kernel) hR
theorem qc160 {R : Room} {s : State} {args : Array Value} (ht : ∀ w ∈ allw, w.before args s = true) (hR : (rmX4_isGood).frames + 1 ≤ R.frames ∧ 8 + (3 + 11) + (rmX4_isGood).locals ≤ R.locals) : CallW R s args RL RX4 233 yX4_isGood cX4_isGood 3 (some .boolean) (wm yX4_isGood cX4_isGood 3 (some .boolean)) rmX4_isGood 0 0 2 := cwV 2 ht (gd_of (fun _ h => h) _ (mV w732 w734 w735 w310 w733)) rfl rfl rfl (by decide +kernel) hR
theorem qc161 {R : Room} {s : State} {args : Array Value} (ht : ∀ w ∈ allw, w.before args s = true) (hR : (rmL_send).frames + 1 ≤ R.frames ∧ 8 + (5 + 11) + (rmL_send).locals ≤ R.locals) : vx_CSW R s args RL 234 yL_send cL_send 5 (some .int) [(0, 10, 13, 21), (0, 10, 17, 23)] (wh yL_send cL_send 5 (some .int) [(0, 10, 13, 21), (0, 10, 17, 23)]) rmL_send 3 18 4 := vx_cwSW 4 ht (gd_of (fun _ h => h) _ (mS w736 w738 w534 w737)) rfl rfl rfl (by decide +kernel) hR
theorem qc162 {R : Room} {s : State} {args : Array Value} (ht : ∀ w ∈ allw, w.before args s = true) (hR : (rmX4_send).frames + 1 ≤ R.frames ∧ 8 + (3 + 11) + (rmX4_send).locals ≤ R.locals) : CallW R s args RL RX4 236 yX4_send cX4_send 3 (some .int) (wm yX4_send cX4_send 3 (some .int)) rmX4_send 0 0 2 := cwV 2 ht (gd_of (fun _ h => h) _ (mV w739 w741 w742 w310 w740)) rfl rfl rfl (by decide +kernel) hR
theorem qc163 {R : Room} {s : State} {args : Array Value} (ht : ∀ w ∈ allw, w.before args s = true) (hR : (rmL_sent).frames + 1 ≤ R.frames ∧ 8 + (4 + 11) + (rmL_sent).locals ≤ R.locals) : vx_CSW R s args RL 237 yL_sent cL_sent 4 (some .int) [(0, 9, 12, 21)] (wh yL_sent cL_sent 4 (some .int) [(0, 9, 12, 21)]) rmL_sent 1 6 3 := vx_cwSW 3 ht (gd_of (fun _ h => h) _ (mS w743 w745 w534 w744)) rfl rfl rfl (by decide +kernel) hR
theorem qc164 {R : Room} {s : State} {args : Array Value} (ht : ∀ w ∈ allw, w.before args s = true) (hR : (rmX4_sent).frames + 1 ≤ R.frames ∧ 8 + (2 + 11) + (rmX4_sent).locals ≤ R.locals) : CallW R s args RL RX4 239 yX4_sent cX4_sent 2 (some .int) (wm yX4_sent cX4_sent 2 (some .int)) rmX4_sent 0 0 1 := cwV 1 ht (gd_of (fun _ h => h) _ (mV w746 w748 w749 w310 w747)) rfl rfl rfl (by decide +kernel) hR
theorem qc165 {R : Room} {s : State} {args : Array Value} (ht : ∀ w ∈ allw, w.before args s = true) (hR : (rmL_wornShare).frames + 1 ≤ R.frames ∧ 8 + (3 + 11) + (rmL_wornShare).locals ≤ R.locals) : vx_CSW R s args RL 240 yL_wornShare cL_wornShare 3 (some .int) [(0, 8, 11, 127)] (wh yL_wornShare cL_wornShare 3 (some .int) [(0, 8, 11, 127)]) rmL_wornShare 1 6 2 := vx_cwSW 2 ht (gd_of (fun _ h => h) _ (mS w750 w752 w534 w751)) rfl rfl rfl (by decide +kernel) hR
theorem qc166 {R : Room} {s : State} {args : Array Value} (ht : ∀ w ∈ allw, w.before args s = true) (hR : (rmX4_wornShare).frames + 1 ≤ R.frames ∧ 8 + (4 + 11) + (rmX4_wornShare).locals ≤ R.locals) : CallW R s args RL RX4 243 yX4_wornShare cX4_wornShare 4 (some .float) (wm yX4_wornShare cX4_wornShare 4 (some .float)) rmX4_wornShare 0 0 0 := cwV 0 ht (gd_of (fun _ h => h) _ (mV w753 w755 w756 w310 w754)) rfl rfl rfl (by decide +kernel) hR
theorem qc167 {R : Room} {s : State} {args : Array Value} (ht : ∀ w ∈ allw, w.before args s = true) (hR : (rmL_meanHardness).frames + 1 ≤ R.frames ∧ 8 + (3 + 11) + (rmL_meanHardness).locals ≤ R.locals) : vx_CSW R s args RL 244 yL_meanHardness cL_meanHardness 3 (some .int) [(0, 7, 10, 127)] (wh yL_meanHardness cL_meanHardness 3 (some .int) [(0, 7, 10, 127)]) rmL_meanHardness 1 6 2 := vx_cwSW 2 ht (gd_of (fun _ h => h) _ (mS w757 w759 w534 w758)) rfl rfl rfl (by decide +kernel) hR
theorem qc168 {R : Room} {s : State} {args : Array Value} (ht : ∀ w ∈ allw, w.before args s = true) (hR : (rmX4_meanHardness).frames + 1 ≤ R.frames ∧ 8 + (5 + 11) + (rmX4_meanHardness).locals ≤ R.locals) : CallW R s args RL RX4 246 yX4_meanHardness cX4_meanHardness 5 (some .double) (wm yX4_meanHardness cX4_meanHardness 5 (some .double)) rmX4_meanHardness 0 0 0 := cwV 0 ht (gd_of (fun _ h => h) _ (mV w760 w762 w763 w310 w761)) rfl rfl rfl (by decide +kernel) hR
theorem qc169 {R : Room} {s : State} {args : Array Value} (ht : ∀ w ∈ allw, w.before args s = true) (hR : (rmX3_checksum).frames + 1 ≤ R.frames ∧ 8 + (4 + 11) + (rmX3_checksum).locals ≤ R.locals) : CallW R s args RL RX3 247 yX3_checksum cX3_checksum 4 (some .long) (wm yX3_checksum cX3_checksum 4 (some .long)) rmX3_checksum 0 0 0 := cwV 0 ht (gd_of (fun _ h => h) _ (mV w764 w766 w767 w64 w765)) rfl rfl rfl (by decide +kernel) hR
theorem qc170 {R : Room} {s : State} {args : Array Value} (ht : ∀ w ∈ allw, w.before args s = true) (hR : (rmX4_checksum).frames + 1 ≤ R.frames ∧ 8 + (5 + 11) + (rmX4_checksum).locals ≤ R.locals) : CallW R s args RL RX4 251 yX4_checksum cX4_checksum 5 (some .long) (wm yX4_checksum cX4_checksum 5 (some .long)) rmX4_checksum 0 0 0 := cwV 0 ht (gd_of (fun _ h => h) _ (mV w768 w770 w771 w310 w769)) rfl rfl rfl (by decide +kernel) hR
theorem qc171 {R : Room} {s : State} {args : Array Value} (ht : ∀ w ∈ allw, w.before args s = true) (hR : (rmX3_isSound).frames + 1 ≤ R.frames ∧ 8 + (2 + 11) + (rmX3_isSound).locals ≤ R.locals) : CallW R s args RL RX3 252 yX3_isSound cX3_isSound 2 (some .boolean) (wm yX3_isSound cX3_isSound 2 (some .boolean)) rmX3_isSound 0 0 0 := cwV 0 ht (gd_of (fun _ h => h) _ (mV w772 w774 w775 w64 w773)) rfl rfl rfl (by decide +kernel) hR
theorem qc172 {R : Room} {s : State} {args : Array Value} (ht : ∀ w ∈ allw, w.before args s = true) (hR : (rmX4_isSound).frames + 1 ≤ R.frames ∧ 8 + (1 + 11) + (rmX4_isSound).locals ≤ R.locals) : CallW R s args RL RX4 256 yX4_isSound cX4_isSound 1 (some .boolean) (wm yX4_isSound cX4_isSound 1 (some .boolean)) rmX4_isSound 0 0 0 := cwV 0 ht (gd_of (fun _ h => h) _ (mV w776 w778 w779 w310 w777)) rfl rfl rfl (by decide +kernel) hR
def f_law_0 (N : Nat) (xs : Nat → Int32) (rec : Sg → Int32 → Option Unit) (σ : Sg) (x5 : Int32) : Option Unit :=
  (if ((x5 + 1) : Int32) < 0 ∨ N ≤ ((x5 + 1) : Int32).toNatClampNeg then none else (if ((x5 + 2) : Int32) < 0 ∨ N ≤ ((x5 + 2) : Int32).toNatClampNeg then none else (if ((x5 + 3) : Int32) < 0 ∨ N ≤ ((x5 + 3) : Int32).toNatClampNeg then none else (if ((x5 + 4) : Int32) < 0 ∨ N ≤ ((x5 + 4) : Int32).toNatClampNeg then none else ((f_L_blank σ ((((xs ((x5 + 1) : Int32).toNatClampNeg) : Int32).toUInt32 % 65536).toInt32) (xs ((x5 + 2) : Int32).toNatClampNeg) (xs ((x5 + 3) : Int32).toNatClampNeg) (xs ((x5 + 4) : Int32).toNatClampNeg)).bind (fun r1 => (if ((x5 + 1) : Int32) < 0 ∨ N ≤ ((x5 + 1) : Int32).toNatClampNeg then none else (if ((x5 + 2) : Int32) < 0 ∨ N ≤ ((x5 + 2) : Int32).toNatClampNeg then none else (if ((x5 + 3) : Int32) < 0 ∨ N ≤ ((x5 + 3) : Int32).toNatClampNeg then none else (if ((x5 + 4) : Int32) < 0 ∨ N ≤ ((x5 + 4) : Int32).toNatClampNeg then none else ((f_X4_blank r1.2 ((((xs ((x5 + 1) : Int32).toNatClampNeg) : Int32).toUInt32 % 65536).toInt32) (xs ((x5 + 2) : Int32).toNatClampNeg) (xs ((x5 + 3) : Int32).toNatClampNeg) (xs ((x5 + 4) : Int32).toNatClampNeg)).bind (fun r2 => (rec r2.2 (x5 + 5))))))))))))))
set_option maxRecDepth 100000 in
set_option maxHeartbeats 8000000 in
theorem b_law_0 (C0 : Cx p l s m args meth c cL_law 9 RL D cy n0) (hX : va_X b N xs s s.heap) (hbl : b < s.heap.size) (hbn : ¬ n0 ≤ b) (rec : Sg → Int32 → Option Unit) (t : Nat) (ht : t < 513) (hrec : ∀ (σ : Sg) (x5 : Int32) (H : Heap) (locs : List Loc) (ls : Array Slot), LW D cy n0 s y0 y7 y12 y13 σ H locs → lv_has ls 9 [(0, .ref b), (1, .ref y0), (2, .ref y7), (3, .ref y12), (4, .ref y13), (5, .int x5)] → Sm Qf (rec σ x5) p l e room_1 s m args below meth c H locs (34 + 9 * (t + 1)) (1366 + 230 * (t + 1)) (F0 m 28 ls [])) (σ : Sg) (x5 : Int32) (H : Heap) (locs : List Loc) (ls : Array Slot) (hw : LW D cy n0 s y0 y7 y12 y13 σ H locs) (hl : lv_has ls 9 [(0, .ref b), (1, .ref y0), (2, .ref y7), (3, .ref y12), (4, .ref y13), (5, .int x5)]) : Sm Qf (f_law_0 N xs rec σ x5) p l e room_1 s m args below meth c H locs (34 + 9 * t) (1366 + 230 * t) (F0 m 200 ls []) := by
  unfold f_law_0
  refine s_aload_n C0 dL_law_200 rfl (lv_at hl 1 rfl) ?_
  refine s_aload_n C0 dL_law_201 rfl (lv_at hl 0 rfl) ?_
  refine s_iload C0 dL_law_202 (lv_at hl 5 rfl) ?_
  refine s_iconst (v := 1) C0 dL_law_204 (by decide) ?_
  refine s_iadd C0 dL_law_205 ?_
  refine l_sld C0 hX hbl hbn hw dL_law_206 ?_
  refine s_i2c C0 dL_law_207 rfl ?_
  refine s_aload_n C0 dL_law_208 rfl (lv_at hl 0 rfl) ?_
  refine s_iload C0 dL_law_209 (lv_at hl 5 rfl) ?_
  refine s_iconst (v := 2) C0 dL_law_211 (by decide) ?_
  refine s_iadd C0 dL_law_212 ?_
  refine l_sld C0 hX hbl hbn hw dL_law_213 ?_
  refine s_aload_n C0 dL_law_214 rfl (lv_at hl 0 rfl) ?_
  refine s_iload C0 dL_law_215 (lv_at hl 5 rfl) ?_
  refine s_iconst (v := 3) C0 dL_law_217 (by decide) ?_
  refine s_iadd C0 dL_law_218 ?_
  refine l_sld C0 hX hbl hbn hw dL_law_219 ?_
  refine s_aload_n C0 dL_law_220 rfl (lv_at hl 0 rfl) ?_
  refine s_iload C0 dL_law_221 (lv_at hl 5 rfl) ?_
  refine s_iconst (v := 4) C0 dL_law_223 (by decide) ?_
  refine s_iadd C0 dL_law_224 ?_
  refine l_sld C0 hX hbl hbn hw dL_law_225 ?_
  refine s_aload_n C0 dL_law_226 rfl (lv_at hl 3 rfl) ?_
  refine l_H (As := (fun ad => [.ref (ad 0 0), .int ((((xs ((x5 + 1) : Int32).toNatClampNeg) : Int32).toUInt32 % 65536).toInt32), .int (xs ((x5 + 2) : Int32).toNatClampNeg), .int (xs ((x5 + 3) : Int32).toNatClampNeg), .int (xs ((x5 + 4) : Int32).toNatClampNeg), .ref (ad 12 0)])) (rest := []) C0 hw (fun ad nT nO => c_L_blank C0.2.2.2.2.2.2 _ ((((xs ((x5 + 1) : Int32).toNatClampNeg) : Int32).toUInt32 % 65536).toInt32) (xs ((x5 + 2) : Int32).toNatClampNeg) (xs ((x5 + 3) : Int32).toNatClampNeg) (xs ((x5 + 4) : Int32).toNatClampNeg)) (qc103 C0.1.2.2.2.2 ⟨Nat.le_of_ble_eq_true rfl, Nat.le_of_ble_eq_true rfl⟩) (fun _ => rfl) hl.1 (fun ad e0 e12 e13 => by simp [e0, e12]) (lv_room (Nat.le_of_ble_eq_true rfl)) dL_law_227 ⟨by show _ ≤ 603072; omega, by show _ ≤ 7231594; omega⟩ (fun r1 H locs _ hw => ?_)
  refine s_istore (lv' := [(6, .int r1.1), (0, .ref b), (1, .ref y0), (2, .ref y7), (3, .ref y12), (4, .ref y13), (5, .int x5)]) C0 dL_law_230 hl (by decide) rfl (fun ls hl => ?_)
  refine s_aload_n C0 dL_law_232 rfl (lv_at hl 3 rfl) ?_
  refine s_aload_n C0 dL_law_233 rfl (lv_at hl 1 rfl) ?_
  refine s_iload C0 dL_law_234 (lv_at hl 6 rfl) ?_
  refine s_iconst (v := 1) C0 dL_law_236 (by decide) ?_
  refine s_iadd C0 dL_law_237 ?_
  refine l_sld C0 hX hbl hbn hw dL_law_238 ?_
  refine s_i2c C0 dL_law_239 rfl ?_
  refine s_aload_n C0 dL_law_240 rfl (lv_at hl 1 rfl) ?_
  refine s_iload C0 dL_law_241 (lv_at hl 6 rfl) ?_
  refine s_iconst (v := 2) C0 dL_law_243 (by decide) ?_
  refine s_iadd C0 dL_law_244 ?_
  refine l_sld C0 hX hbl hbn hw dL_law_245 ?_
  refine s_aload_n C0 dL_law_246 rfl (lv_at hl 1 rfl) ?_
  refine s_iload C0 dL_law_247 (lv_at hl 6 rfl) ?_
  refine s_iconst (v := 3) C0 dL_law_249 (by decide) ?_
  refine s_iadd C0 dL_law_250 ?_
  refine l_sld C0 hX hbl hbn hw dL_law_251 ?_
  refine s_aload_n C0 dL_law_252 rfl (lv_at hl 1 rfl) ?_
  refine s_iload C0 dL_law_253 (lv_at hl 6 rfl) ?_
  refine s_iconst (v := 4) C0 dL_law_255 (by decide) ?_
  refine s_iadd C0 dL_law_256 ?_
  refine l_sld C0 hX hbl hbn hw dL_law_257 ?_
  refine l_V (vv := vI) (As := [.int ((((xs ((x5 + 1) : Int32).toNatClampNeg) : Int32).toUInt32 % 65536).toInt32), .int (xs ((x5 + 2) : Int32).toNatClampNeg), .int (xs ((x5 + 3) : Int32).toNatClampNeg), .int (xs ((x5 + 4) : Int32).toNatClampNeg)]) (rest := []) (kd := 7) (ci := 4) C0 hw (Or.inr ⟨rfl, rfl, rfl⟩) rfl (fun ad nT nO => c_X4_blank C0.2.2.2.2.2.2 _ ((((xs ((x5 + 1) : Int32).toNatClampNeg) : Int32).toUInt32 % 65536).toInt32) (xs ((x5 + 2) : Int32).toNatClampNeg) (xs ((x5 + 3) : Int32).toNatClampNeg) (xs ((x5 + 4) : Int32).toNatClampNeg)) (qc104 C0.1.2.2.2.2 ⟨Nat.le_of_ble_eq_true rfl, Nat.le_of_ble_eq_true rfl⟩) rfl hl.1 rfl (lv_room (Nat.le_of_ble_eq_true rfl)) dL_law_258 ⟨by show _ ≤ 603072; omega, by show _ ≤ 7231594; omega⟩ (fun r2 H locs _ hw => ?_)
  refine s_istore (lv' := [(7, .int r2.1), (6, .int r1.1), (0, .ref b), (1, .ref y0), (2, .ref y7), (3, .ref y12), (4, .ref y13), (5, .int x5)]) C0 dL_law_261 hl (by decide) rfl (fun ls hl => ?_)
  refine s_goto (tgt := 1381) C0 dL_law_263 (by decide) ?_
  refine s_iinc (k := 7) (v := (x5 + 5)) (lv' := [(5, .int (x5 + 5)), (7, .int r2.1), (6, .int r1.1), (0, .ref b), (1, .ref y0), (2, .ref y7), (3, .ref y12), (4, .ref y13)]) C0 dL_law_1381 hl rfl rfl (by decide) rfl (fun ls hl => ?_)
  refine s_goto (tgt := 28) C0 dL_law_1384 (by decide) ?_
  refine s_widen (k := 34 + 9 * (t + 1)) (n := 1366 + 230 * (t + 1)) (by omega) (by omega) ?_
  exact hrec r2.2 (x5 + 5) _ _ _ hw (lv_sub hl [3, 4, 5, 6, 7, 0] rfl)
def f_law_1 (N : Nat) (xs : Nat → Int32) (rec : Sg → Int32 → Option Unit) (σ : Sg) (x5 : Int32) : Option Unit :=
  (if ((x5 + 1) : Int32) < 0 ∨ N ≤ ((x5 + 1) : Int32).toNatClampNeg then none else (if ((x5 + 2) : Int32) < 0 ∨ N ≤ ((x5 + 2) : Int32).toNatClampNeg then none else (if ((x5 + 3) : Int32) < 0 ∨ N ≤ ((x5 + 3) : Int32).toNatClampNeg then none else ((f_L_cut σ (xs ((x5 + 1) : Int32).toNatClampNeg) ((((xs ((x5 + 2) : Int32).toNatClampNeg) : Int32).toUInt32 % 65536).toInt32) (xs ((x5 + 3) : Int32).toNatClampNeg)).bind (fun r3 => (if ((x5 + 1) : Int32) < 0 ∨ N ≤ ((x5 + 1) : Int32).toNatClampNeg then none else (if ((x5 + 2) : Int32) < 0 ∨ N ≤ ((x5 + 2) : Int32).toNatClampNeg then none else (if ((x5 + 3) : Int32) < 0 ∨ N ≤ ((x5 + 3) : Int32).toNatClampNeg then none else ((f_X4_cut r3.2 (xs ((x5 + 1) : Int32).toNatClampNeg) ((((xs ((x5 + 2) : Int32).toNatClampNeg) : Int32).toUInt32 % 65536).toInt32) (xs ((x5 + 3) : Int32).toNatClampNeg)).bind (fun r4 => (rec r4.2 (x5 + 5))))))))))))
set_option maxRecDepth 100000 in
set_option maxHeartbeats 8000000 in
theorem b_law_1 (C0 : Cx p l s m args meth c cL_law 9 RL D cy n0) (hX : va_X b N xs s s.heap) (hbl : b < s.heap.size) (hbn : ¬ n0 ≤ b) (rec : Sg → Int32 → Option Unit) (t : Nat) (ht : t < 513) (hrec : ∀ (σ : Sg) (x5 : Int32) (H : Heap) (locs : List Loc) (ls : Array Slot), LW D cy n0 s y0 y7 y12 y13 σ H locs → lv_has ls 9 [(0, .ref b), (1, .ref y0), (2, .ref y7), (3, .ref y12), (4, .ref y13), (5, .int x5)] → Sm Qf (rec σ x5) p l e room_1 s m args below meth c H locs (34 + 9 * (t + 1)) (1366 + 230 * (t + 1)) (F0 m 28 ls [])) (σ : Sg) (x5 : Int32) (H : Heap) (locs : List Loc) (ls : Array Slot) (hw : LW D cy n0 s y0 y7 y12 y13 σ H locs) (hl : lv_has ls 9 [(0, .ref b), (1, .ref y0), (2, .ref y7), (3, .ref y12), (4, .ref y13), (5, .int x5)]) : Sm Qf (f_law_1 N xs rec σ x5) p l e room_1 s m args below meth c H locs (34 + 9 * t) (1366 + 230 * t) (F0 m 266 ls []) := by
  unfold f_law_1
  refine s_aload_n C0 dL_law_266 rfl (lv_at hl 1 rfl) ?_
  refine s_aload_n C0 dL_law_267 rfl (lv_at hl 0 rfl) ?_
  refine s_iload C0 dL_law_268 (lv_at hl 5 rfl) ?_
  refine s_iconst (v := 1) C0 dL_law_270 (by decide) ?_
  refine s_iadd C0 dL_law_271 ?_
  refine l_sld C0 hX hbl hbn hw dL_law_272 ?_
  refine s_aload_n C0 dL_law_273 rfl (lv_at hl 0 rfl) ?_
  refine s_iload C0 dL_law_274 (lv_at hl 5 rfl) ?_
  refine s_iconst (v := 2) C0 dL_law_276 (by decide) ?_
  refine s_iadd C0 dL_law_277 ?_
  refine l_sld C0 hX hbl hbn hw dL_law_278 ?_
  refine s_i2c C0 dL_law_279 rfl ?_
  refine s_aload_n C0 dL_law_280 rfl (lv_at hl 0 rfl) ?_
  refine s_iload C0 dL_law_281 (lv_at hl 5 rfl) ?_
  refine s_iconst (v := 3) C0 dL_law_283 (by decide) ?_
  refine s_iadd C0 dL_law_284 ?_
  refine l_sld C0 hX hbl hbn hw dL_law_285 ?_
  refine s_aload_n C0 dL_law_286 rfl (lv_at hl 3 rfl) ?_
  refine l_H (As := (fun ad => [.ref (ad 0 0), .int (xs ((x5 + 1) : Int32).toNatClampNeg), .int ((((xs ((x5 + 2) : Int32).toNatClampNeg) : Int32).toUInt32 % 65536).toInt32), .int (xs ((x5 + 3) : Int32).toNatClampNeg), .ref (ad 12 0)])) (rest := []) C0 hw (fun ad nT nO => c_L_cut C0.2.2.2.2.2.2 _ (xs ((x5 + 1) : Int32).toNatClampNeg) ((((xs ((x5 + 2) : Int32).toNatClampNeg) : Int32).toUInt32 % 65536).toInt32) (xs ((x5 + 3) : Int32).toNatClampNeg)) (qc105 C0.1.2.2.2.2 ⟨Nat.le_of_ble_eq_true rfl, Nat.le_of_ble_eq_true rfl⟩) (fun _ => rfl) hl.1 (fun ad e0 e12 e13 => by simp [e0, e12]) (lv_room (Nat.le_of_ble_eq_true rfl)) dL_law_287 ⟨by show _ ≤ 603072; omega, by show _ ≤ 7231594; omega⟩ (fun r3 H locs _ hw => ?_)
  refine s_istore (lv' := [(6, .int r3.1), (0, .ref b), (1, .ref y0), (2, .ref y7), (3, .ref y12), (4, .ref y13), (5, .int x5)]) C0 dL_law_290 hl (by decide) rfl (fun ls hl => ?_)
  refine s_aload_n C0 dL_law_292 rfl (lv_at hl 3 rfl) ?_
  refine s_aload_n C0 dL_law_293 rfl (lv_at hl 1 rfl) ?_
  refine s_iload C0 dL_law_294 (lv_at hl 6 rfl) ?_
  refine s_iconst (v := 1) C0 dL_law_296 (by decide) ?_
  refine s_iadd C0 dL_law_297 ?_
  refine l_sld C0 hX hbl hbn hw dL_law_298 ?_
  refine s_aload_n C0 dL_law_299 rfl (lv_at hl 1 rfl) ?_
  refine s_iload C0 dL_law_300 (lv_at hl 6 rfl) ?_
  refine s_iconst (v := 2) C0 dL_law_302 (by decide) ?_
  refine s_iadd C0 dL_law_303 ?_
  refine l_sld C0 hX hbl hbn hw dL_law_304 ?_
  refine s_i2c C0 dL_law_305 rfl ?_
  refine s_aload_n C0 dL_law_306 rfl (lv_at hl 1 rfl) ?_
  refine s_iload C0 dL_law_307 (lv_at hl 6 rfl) ?_
  refine s_iconst (v := 3) C0 dL_law_309 (by decide) ?_
  refine s_iadd C0 dL_law_310 ?_
  refine l_sld C0 hX hbl hbn hw dL_law_311 ?_
  refine l_V (vv := vI) (As := [.int (xs ((x5 + 1) : Int32).toNatClampNeg), .int ((((xs ((x5 + 2) : Int32).toNatClampNeg) : Int32).toUInt32 % 65536).toInt32), .int (xs ((x5 + 3) : Int32).toNatClampNeg)]) (rest := []) (kd := 7) (ci := 4) C0 hw (Or.inr ⟨rfl, rfl, rfl⟩) rfl (fun ad nT nO => c_X4_cut C0.2.2.2.2.2.2 _ (xs ((x5 + 1) : Int32).toNatClampNeg) ((((xs ((x5 + 2) : Int32).toNatClampNeg) : Int32).toUInt32 % 65536).toInt32) (xs ((x5 + 3) : Int32).toNatClampNeg)) (qc106 C0.1.2.2.2.2 ⟨Nat.le_of_ble_eq_true rfl, Nat.le_of_ble_eq_true rfl⟩) rfl hl.1 rfl (lv_room (Nat.le_of_ble_eq_true rfl)) dL_law_312 ⟨by show _ ≤ 603072; omega, by show _ ≤ 7231594; omega⟩ (fun r4 H locs _ hw => ?_)
  refine s_istore (lv' := [(7, .int r4.1), (6, .int r3.1), (0, .ref b), (1, .ref y0), (2, .ref y7), (3, .ref y12), (4, .ref y13), (5, .int x5)]) C0 dL_law_315 hl (by decide) rfl (fun ls hl => ?_)
  refine s_goto (tgt := 1381) C0 dL_law_317 (by decide) ?_
  refine s_iinc (k := 7) (v := (x5 + 5)) (lv' := [(5, .int (x5 + 5)), (7, .int r4.1), (6, .int r3.1), (0, .ref b), (1, .ref y0), (2, .ref y7), (3, .ref y12), (4, .ref y13)]) C0 dL_law_1381 hl rfl rfl (by decide) rfl (fun ls hl => ?_)
  refine s_goto (tgt := 28) C0 dL_law_1384 (by decide) ?_
  refine s_widen (k := 34 + 9 * (t + 1)) (n := 1366 + 230 * (t + 1)) (by omega) (by omega) ?_
  exact hrec r4.2 (x5 + 5) _ _ _ hw (lv_sub hl [3, 4, 5, 6, 7, 0] rfl)
def f_law_2 (N : Nat) (xs : Nat → Int32) (rec : Sg → Int32 → Option Unit) (σ : Sg) (x5 : Int32) : Option Unit :=
  (if ((x5 + 1) : Int32) < 0 ∨ N ≤ ((x5 + 1) : Int32).toNatClampNeg then none else ((f_L_upcut σ (xs ((x5 + 1) : Int32).toNatClampNeg)).bind (fun r5 => (if ((x5 + 1) : Int32) < 0 ∨ N ≤ ((x5 + 1) : Int32).toNatClampNeg then none else ((f_X4_upcut r5.2 (xs ((x5 + 1) : Int32).toNatClampNeg)).bind (fun r6 => (rec r6.2 (x5 + 5))))))))
set_option maxRecDepth 100000 in
set_option maxHeartbeats 8000000 in
theorem b_law_2 (C0 : Cx p l s m args meth c cL_law 9 RL D cy n0) (hX : va_X b N xs s s.heap) (hbl : b < s.heap.size) (hbn : ¬ n0 ≤ b) (rec : Sg → Int32 → Option Unit) (t : Nat) (ht : t < 513) (hrec : ∀ (σ : Sg) (x5 : Int32) (H : Heap) (locs : List Loc) (ls : Array Slot), LW D cy n0 s y0 y7 y12 y13 σ H locs → lv_has ls 9 [(0, .ref b), (1, .ref y0), (2, .ref y7), (3, .ref y12), (4, .ref y13), (5, .int x5)] → Sm Qf (rec σ x5) p l e room_1 s m args below meth c H locs (34 + 9 * (t + 1)) (1366 + 230 * (t + 1)) (F0 m 28 ls [])) (σ : Sg) (x5 : Int32) (H : Heap) (locs : List Loc) (ls : Array Slot) (hw : LW D cy n0 s y0 y7 y12 y13 σ H locs) (hl : lv_has ls 9 [(0, .ref b), (1, .ref y0), (2, .ref y7), (3, .ref y12), (4, .ref y13), (5, .int x5)]) : Sm Qf (f_law_2 N xs rec σ x5) p l e room_1 s m args below meth c H locs (34 + 9 * t) (1366 + 230 * t) (F0 m 320 ls []) := by
  unfold f_law_2
  refine s_aload_n C0 dL_law_320 rfl (lv_at hl 1 rfl) ?_
  refine s_aload_n C0 dL_law_321 rfl (lv_at hl 0 rfl) ?_
  refine s_iload C0 dL_law_322 (lv_at hl 5 rfl) ?_
  refine s_iconst (v := 1) C0 dL_law_324 (by decide) ?_
  refine s_iadd C0 dL_law_325 ?_
  refine l_sld C0 hX hbl hbn hw dL_law_326 ?_
  refine s_aload_n C0 dL_law_327 rfl (lv_at hl 3 rfl) ?_
  refine l_H (As := (fun ad => [.ref (ad 0 0), .int (xs ((x5 + 1) : Int32).toNatClampNeg), .ref (ad 12 0)])) (rest := []) C0 hw (fun ad nT nO => c_L_upcut C0.2.2.2.2.2.2 _ (xs ((x5 + 1) : Int32).toNatClampNeg)) (qc107 C0.1.2.2.2.2 ⟨Nat.le_of_ble_eq_true rfl, Nat.le_of_ble_eq_true rfl⟩) (fun _ => rfl) hl.1 (fun ad e0 e12 e13 => by simp [e0, e12]) (lv_room (Nat.le_of_ble_eq_true rfl)) dL_law_328 ⟨by show _ ≤ 603072; omega, by show _ ≤ 7231594; omega⟩ (fun r5 H locs _ hw => ?_)
  refine s_istore (lv' := [(6, .int r5.1), (0, .ref b), (1, .ref y0), (2, .ref y7), (3, .ref y12), (4, .ref y13), (5, .int x5)]) C0 dL_law_331 hl (by decide) rfl (fun ls hl => ?_)
  refine s_aload_n C0 dL_law_333 rfl (lv_at hl 3 rfl) ?_
  refine s_aload_n C0 dL_law_334 rfl (lv_at hl 1 rfl) ?_
  refine s_iload C0 dL_law_335 (lv_at hl 6 rfl) ?_
  refine s_iconst (v := 1) C0 dL_law_337 (by decide) ?_
  refine s_iadd C0 dL_law_338 ?_
  refine l_sld C0 hX hbl hbn hw dL_law_339 ?_
  refine l_V (vv := vI) (As := [.int (xs ((x5 + 1) : Int32).toNatClampNeg)]) (rest := []) (kd := 7) (ci := 4) C0 hw (Or.inr ⟨rfl, rfl, rfl⟩) rfl (fun ad nT nO => c_X4_upcut C0.2.2.2.2.2.2 _ (xs ((x5 + 1) : Int32).toNatClampNeg)) (qc108 C0.1.2.2.2.2 ⟨Nat.le_of_ble_eq_true rfl, Nat.le_of_ble_eq_true rfl⟩) rfl hl.1 rfl (lv_room (Nat.le_of_ble_eq_true rfl)) dL_law_340 ⟨by show _ ≤ 603072; omega, by show _ ≤ 7231594; omega⟩ (fun r6 H locs _ hw => ?_)
  refine s_istore (lv' := [(7, .int r6.1), (6, .int r5.1), (0, .ref b), (1, .ref y0), (2, .ref y7), (3, .ref y12), (4, .ref y13), (5, .int x5)]) C0 dL_law_343 hl (by decide) rfl (fun ls hl => ?_)
  refine s_goto (tgt := 1381) C0 dL_law_345 (by decide) ?_
  refine s_iinc (k := 7) (v := (x5 + 5)) (lv' := [(5, .int (x5 + 5)), (7, .int r6.1), (6, .int r5.1), (0, .ref b), (1, .ref y0), (2, .ref y7), (3, .ref y12), (4, .ref y13)]) C0 dL_law_1381 hl rfl rfl (by decide) rfl (fun ls hl => ?_)
  refine s_goto (tgt := 28) C0 dL_law_1384 (by decide) ?_
  refine s_widen (k := 34 + 9 * (t + 1)) (n := 1366 + 230 * (t + 1)) (by omega) (by omega) ?_
  exact hrec r6.2 (x5 + 5) _ _ _ hw (lv_sub hl [3, 4, 5, 6, 7, 0] rfl)
def f_law_3 (N : Nat) (xs : Nat → Int32) (rec : Sg → Int32 → Option Unit) (σ : Sg) (x5 : Int32) : Option Unit :=
  (if ((x5 + 1) : Int32) < 0 ∨ N ≤ ((x5 + 1) : Int32).toNatClampNeg then none else ((f_L_teeth σ (xs ((x5 + 1) : Int32).toNatClampNeg)).bind (fun r7 => (if ((x5 + 1) : Int32) < 0 ∨ N ≤ ((x5 + 1) : Int32).toNatClampNeg then none else ((f_X4_teeth r7.2 (xs ((x5 + 1) : Int32).toNatClampNeg)).bind (fun r8 => (rec r8.2 (x5 + 5))))))))
set_option maxRecDepth 100000 in
set_option maxHeartbeats 8000000 in
theorem b_law_3 (C0 : Cx p l s m args meth c cL_law 9 RL D cy n0) (hX : va_X b N xs s s.heap) (hbl : b < s.heap.size) (hbn : ¬ n0 ≤ b) (rec : Sg → Int32 → Option Unit) (t : Nat) (ht : t < 513) (hrec : ∀ (σ : Sg) (x5 : Int32) (H : Heap) (locs : List Loc) (ls : Array Slot), LW D cy n0 s y0 y7 y12 y13 σ H locs → lv_has ls 9 [(0, .ref b), (1, .ref y0), (2, .ref y7), (3, .ref y12), (4, .ref y13), (5, .int x5)] → Sm Qf (rec σ x5) p l e room_1 s m args below meth c H locs (34 + 9 * (t + 1)) (1366 + 230 * (t + 1)) (F0 m 28 ls [])) (σ : Sg) (x5 : Int32) (H : Heap) (locs : List Loc) (ls : Array Slot) (hw : LW D cy n0 s y0 y7 y12 y13 σ H locs) (hl : lv_has ls 9 [(0, .ref b), (1, .ref y0), (2, .ref y7), (3, .ref y12), (4, .ref y13), (5, .int x5)]) : Sm Qf (f_law_3 N xs rec σ x5) p l e room_1 s m args below meth c H locs (34 + 9 * t) (1366 + 230 * t) (F0 m 348 ls []) := by
  unfold f_law_3
  refine s_aload_n C0 dL_law_348 rfl (lv_at hl 1 rfl) ?_
  refine s_aload_n C0 dL_law_349 rfl (lv_at hl 0 rfl) ?_
  refine s_iload C0 dL_law_350 (lv_at hl 5 rfl) ?_
  refine s_iconst (v := 1) C0 dL_law_352 (by decide) ?_
  refine s_iadd C0 dL_law_353 ?_
  refine l_sld C0 hX hbl hbn hw dL_law_354 ?_
  refine s_aload_n C0 dL_law_355 rfl (lv_at hl 3 rfl) ?_
  refine l_H (As := (fun ad => [.ref (ad 0 0), .int (xs ((x5 + 1) : Int32).toNatClampNeg), .ref (ad 12 0)])) (rest := []) C0 hw (fun ad nT nO => c_L_teeth C0.2.2.2.2.2.2 _ (xs ((x5 + 1) : Int32).toNatClampNeg)) (qc109 C0.1.2.2.2.2 ⟨Nat.le_of_ble_eq_true rfl, Nat.le_of_ble_eq_true rfl⟩) (fun _ => rfl) hl.1 (fun ad e0 e12 e13 => by simp [e0, e12]) (lv_room (Nat.le_of_ble_eq_true rfl)) dL_law_356 ⟨by show _ ≤ 603072; omega, by show _ ≤ 7231594; omega⟩ (fun r7 H locs _ hw => ?_)
  refine s_istore (lv' := [(6, .int r7.1), (0, .ref b), (1, .ref y0), (2, .ref y7), (3, .ref y12), (4, .ref y13), (5, .int x5)]) C0 dL_law_359 hl (by decide) rfl (fun ls hl => ?_)
  refine s_aload_n C0 dL_law_361 rfl (lv_at hl 3 rfl) ?_
  refine s_aload_n C0 dL_law_362 rfl (lv_at hl 1 rfl) ?_
  refine s_iload C0 dL_law_363 (lv_at hl 6 rfl) ?_
  refine s_iconst (v := 1) C0 dL_law_365 (by decide) ?_
  refine s_iadd C0 dL_law_366 ?_
  refine l_sld C0 hX hbl hbn hw dL_law_367 ?_
  refine l_V (vv := vI) (As := [.int (xs ((x5 + 1) : Int32).toNatClampNeg)]) (rest := []) (kd := 7) (ci := 4) C0 hw (Or.inr ⟨rfl, rfl, rfl⟩) rfl (fun ad nT nO => c_X4_teeth C0.2.2.2.2.2.2 _ (xs ((x5 + 1) : Int32).toNatClampNeg)) (qc110 C0.1.2.2.2.2 ⟨Nat.le_of_ble_eq_true rfl, Nat.le_of_ble_eq_true rfl⟩) rfl hl.1 rfl (lv_room (Nat.le_of_ble_eq_true rfl)) dL_law_368 ⟨by show _ ≤ 603072; omega, by show _ ≤ 7231594; omega⟩ (fun r8 H locs _ hw => ?_)
  refine s_istore (lv' := [(7, .int r8.1), (6, .int r7.1), (0, .ref b), (1, .ref y0), (2, .ref y7), (3, .ref y12), (4, .ref y13), (5, .int x5)]) C0 dL_law_371 hl (by decide) rfl (fun ls hl => ?_)
  refine s_goto (tgt := 1381) C0 dL_law_373 (by decide) ?_
  refine s_iinc (k := 7) (v := (x5 + 5)) (lv' := [(5, .int (x5 + 5)), (7, .int r8.1), (6, .int r7.1), (0, .ref b), (1, .ref y0), (2, .ref y7), (3, .ref y12), (4, .ref y13)]) C0 dL_law_1381 hl rfl rfl (by decide) rfl (fun ls hl => ?_)
  refine s_goto (tgt := 28) C0 dL_law_1384 (by decide) ?_
  refine s_widen (k := 34 + 9 * (t + 1)) (n := 1366 + 230 * (t + 1)) (by omega) (by omega) ?_
  exact hrec r8.2 (x5 + 5) _ _ _ hw (lv_sub hl [3, 4, 5, 6, 7, 0] rfl)
def f_law_4 (N : Nat) (xs : Nat → Int32) (rec : Sg → Int32 → Option Unit) (σ : Sg) (x5 : Int32) : Option Unit :=
  (if ((x5 + 1) : Int32) < 0 ∨ N ≤ ((x5 + 1) : Int32).toNatClampNeg then none else (if ((x5 + 2) : Int32) < 0 ∨ N ≤ ((x5 + 2) : Int32).toNatClampNeg then none else ((f_L_place σ (xs ((x5 + 1) : Int32).toNatClampNeg) (xs ((x5 + 2) : Int32).toNatClampNeg)).bind (fun r9 => (if ((x5 + 1) : Int32) < 0 ∨ N ≤ ((x5 + 1) : Int32).toNatClampNeg then none else (if ((x5 + 2) : Int32) < 0 ∨ N ≤ ((x5 + 2) : Int32).toNatClampNeg then none else ((f_X4_place r9.2 (xs ((x5 + 1) : Int32).toNatClampNeg) (xs ((x5 + 2) : Int32).toNatClampNeg)).bind (fun r10 => (rec r10.2 (x5 + 5))))))))))
set_option maxRecDepth 100000 in
set_option maxHeartbeats 8000000 in
theorem b_law_4 (C0 : Cx p l s m args meth c cL_law 9 RL D cy n0) (hX : va_X b N xs s s.heap) (hbl : b < s.heap.size) (hbn : ¬ n0 ≤ b) (rec : Sg → Int32 → Option Unit) (t : Nat) (ht : t < 513) (hrec : ∀ (σ : Sg) (x5 : Int32) (H : Heap) (locs : List Loc) (ls : Array Slot), LW D cy n0 s y0 y7 y12 y13 σ H locs → lv_has ls 9 [(0, .ref b), (1, .ref y0), (2, .ref y7), (3, .ref y12), (4, .ref y13), (5, .int x5)] → Sm Qf (rec σ x5) p l e room_1 s m args below meth c H locs (34 + 9 * (t + 1)) (1366 + 230 * (t + 1)) (F0 m 28 ls [])) (σ : Sg) (x5 : Int32) (H : Heap) (locs : List Loc) (ls : Array Slot) (hw : LW D cy n0 s y0 y7 y12 y13 σ H locs) (hl : lv_has ls 9 [(0, .ref b), (1, .ref y0), (2, .ref y7), (3, .ref y12), (4, .ref y13), (5, .int x5)]) : Sm Qf (f_law_4 N xs rec σ x5) p l e room_1 s m args below meth c H locs (34 + 9 * t) (1366 + 230 * t) (F0 m 376 ls []) := by
  unfold f_law_4
  refine s_aload_n C0 dL_law_376 rfl (lv_at hl 1 rfl) ?_
  refine s_aload_n C0 dL_law_377 rfl (lv_at hl 0 rfl) ?_
  refine s_iload C0 dL_law_378 (lv_at hl 5 rfl) ?_
  refine s_iconst (v := 1) C0 dL_law_380 (by decide) ?_
  refine s_iadd C0 dL_law_381 ?_
  refine l_sld C0 hX hbl hbn hw dL_law_382 ?_
  refine s_aload_n C0 dL_law_383 rfl (lv_at hl 0 rfl) ?_
  refine s_iload C0 dL_law_384 (lv_at hl 5 rfl) ?_
  refine s_iconst (v := 2) C0 dL_law_386 (by decide) ?_
  refine s_iadd C0 dL_law_387 ?_
  refine l_sld C0 hX hbl hbn hw dL_law_388 ?_
  refine s_aload_n C0 dL_law_389 rfl (lv_at hl 3 rfl) ?_
  refine l_H (As := (fun ad => [.ref (ad 0 0), .int (xs ((x5 + 1) : Int32).toNatClampNeg), .int (xs ((x5 + 2) : Int32).toNatClampNeg), .ref (ad 12 0)])) (rest := []) C0 hw (fun ad nT nO => c_L_place C0.2.2.2.2.2.2 _ (xs ((x5 + 1) : Int32).toNatClampNeg) (xs ((x5 + 2) : Int32).toNatClampNeg)) (qc111 C0.1.2.2.2.2 ⟨Nat.le_of_ble_eq_true rfl, Nat.le_of_ble_eq_true rfl⟩) (fun _ => rfl) hl.1 (fun ad e0 e12 e13 => by simp [e0, e12]) (lv_room (Nat.le_of_ble_eq_true rfl)) dL_law_390 ⟨by show _ ≤ 603072; omega, by show _ ≤ 7231594; omega⟩ (fun r9 H locs _ hw => ?_)
  refine s_istore (lv' := [(6, .int r9.1), (0, .ref b), (1, .ref y0), (2, .ref y7), (3, .ref y12), (4, .ref y13), (5, .int x5)]) C0 dL_law_393 hl (by decide) rfl (fun ls hl => ?_)
  refine s_aload_n C0 dL_law_395 rfl (lv_at hl 3 rfl) ?_
  refine s_aload_n C0 dL_law_396 rfl (lv_at hl 1 rfl) ?_
  refine s_iload C0 dL_law_397 (lv_at hl 6 rfl) ?_
  refine s_iconst (v := 1) C0 dL_law_399 (by decide) ?_
  refine s_iadd C0 dL_law_400 ?_
  refine l_sld C0 hX hbl hbn hw dL_law_401 ?_
  refine s_aload_n C0 dL_law_402 rfl (lv_at hl 1 rfl) ?_
  refine s_iload C0 dL_law_403 (lv_at hl 6 rfl) ?_
  refine s_iconst (v := 2) C0 dL_law_405 (by decide) ?_
  refine s_iadd C0 dL_law_406 ?_
  refine l_sld C0 hX hbl hbn hw dL_law_407 ?_
  refine l_V (vv := vI) (As := [.int (xs ((x5 + 1) : Int32).toNatClampNeg), .int (xs ((x5 + 2) : Int32).toNatClampNeg)]) (rest := []) (kd := 7) (ci := 4) C0 hw (Or.inr ⟨rfl, rfl, rfl⟩) rfl (fun ad nT nO => c_X4_place C0.2.2.2.2.2.2 _ (xs ((x5 + 1) : Int32).toNatClampNeg) (xs ((x5 + 2) : Int32).toNatClampNeg)) (qc112 C0.1.2.2.2.2 ⟨Nat.le_of_ble_eq_true rfl, Nat.le_of_ble_eq_true rfl⟩) rfl hl.1 rfl (lv_room (Nat.le_of_ble_eq_true rfl)) dL_law_408 ⟨by show _ ≤ 603072; omega, by show _ ≤ 7231594; omega⟩ (fun r10 H locs _ hw => ?_)
  refine s_istore (lv' := [(7, .int r10.1), (6, .int r9.1), (0, .ref b), (1, .ref y0), (2, .ref y7), (3, .ref y12), (4, .ref y13), (5, .int x5)]) C0 dL_law_411 hl (by decide) rfl (fun ls hl => ?_)
  refine s_goto (tgt := 1381) C0 dL_law_413 (by decide) ?_
  refine s_iinc (k := 7) (v := (x5 + 5)) (lv' := [(5, .int (x5 + 5)), (7, .int r10.1), (6, .int r9.1), (0, .ref b), (1, .ref y0), (2, .ref y7), (3, .ref y12), (4, .ref y13)]) C0 dL_law_1381 hl rfl rfl (by decide) rfl (fun ls hl => ?_)
  refine s_goto (tgt := 28) C0 dL_law_1384 (by decide) ?_
  refine s_widen (k := 34 + 9 * (t + 1)) (n := 1366 + 230 * (t + 1)) (by omega) (by omega) ?_
  exact hrec r10.2 (x5 + 5) _ _ _ hw (lv_sub hl [3, 4, 5, 6, 7, 0] rfl)
def f_law_5 (N : Nat) (xs : Nat → Int32) (rec : Sg → Int32 → Option Unit) (σ : Sg) (x5 : Int32) : Option Unit :=
  (if ((x5 + 1) : Int32) < 0 ∨ N ≤ ((x5 + 1) : Int32).toNatClampNeg then none else (if ((x5 + 2) : Int32) < 0 ∨ N ≤ ((x5 + 2) : Int32).toNatClampNeg then none else ((f_L_height σ (xs ((x5 + 1) : Int32).toNatClampNeg) (xs ((x5 + 2) : Int32).toNatClampNeg)).bind (fun r11 => (if ((x5 + 1) : Int32) < 0 ∨ N ≤ ((x5 + 1) : Int32).toNatClampNeg then none else (if ((x5 + 2) : Int32) < 0 ∨ N ≤ ((x5 + 2) : Int32).toNatClampNeg then none else ((f_X4_height r11.2 (xs ((x5 + 1) : Int32).toNatClampNeg) (xs ((x5 + 2) : Int32).toNatClampNeg)).bind (fun r12 => (rec r12.2 (x5 + 5))))))))))
set_option maxRecDepth 100000 in
set_option maxHeartbeats 8000000 in
theorem b_law_5 (C0 : Cx p l s m args meth c cL_law 9 RL D cy n0) (hX : va_X b N xs s s.heap) (hbl : b < s.heap.size) (hbn : ¬ n0 ≤ b) (rec : Sg → Int32 → Option Unit) (t : Nat) (ht : t < 513) (hrec : ∀ (σ : Sg) (x5 : Int32) (H : Heap) (locs : List Loc) (ls : Array Slot), LW D cy n0 s y0 y7 y12 y13 σ H locs → lv_has ls 9 [(0, .ref b), (1, .ref y0), (2, .ref y7), (3, .ref y12), (4, .ref y13), (5, .int x5)] → Sm Qf (rec σ x5) p l e room_1 s m args below meth c H locs (34 + 9 * (t + 1)) (1366 + 230 * (t + 1)) (F0 m 28 ls [])) (σ : Sg) (x5 : Int32) (H : Heap) (locs : List Loc) (ls : Array Slot) (hw : LW D cy n0 s y0 y7 y12 y13 σ H locs) (hl : lv_has ls 9 [(0, .ref b), (1, .ref y0), (2, .ref y7), (3, .ref y12), (4, .ref y13), (5, .int x5)]) : Sm Qf (f_law_5 N xs rec σ x5) p l e room_1 s m args below meth c H locs (34 + 9 * t) (1366 + 230 * t) (F0 m 416 ls []) := by
  unfold f_law_5
  refine s_aload_n C0 dL_law_416 rfl (lv_at hl 1 rfl) ?_
  refine s_aload_n C0 dL_law_417 rfl (lv_at hl 0 rfl) ?_
  refine s_iload C0 dL_law_418 (lv_at hl 5 rfl) ?_
  refine s_iconst (v := 1) C0 dL_law_420 (by decide) ?_
  refine s_iadd C0 dL_law_421 ?_
  refine l_sld C0 hX hbl hbn hw dL_law_422 ?_
  refine s_aload_n C0 dL_law_423 rfl (lv_at hl 0 rfl) ?_
  refine s_iload C0 dL_law_424 (lv_at hl 5 rfl) ?_
  refine s_iconst (v := 2) C0 dL_law_426 (by decide) ?_
  refine s_iadd C0 dL_law_427 ?_
  refine l_sld C0 hX hbl hbn hw dL_law_428 ?_
  refine s_aload_n C0 dL_law_429 rfl (lv_at hl 3 rfl) ?_
  refine l_H (As := (fun ad => [.ref (ad 0 0), .int (xs ((x5 + 1) : Int32).toNatClampNeg), .int (xs ((x5 + 2) : Int32).toNatClampNeg), .ref (ad 12 0)])) (rest := []) C0 hw (fun ad nT nO => c_L_height C0.2.2.2.2.2.2 _ (xs ((x5 + 1) : Int32).toNatClampNeg) (xs ((x5 + 2) : Int32).toNatClampNeg)) (qc113 C0.1.2.2.2.2 ⟨Nat.le_of_ble_eq_true rfl, Nat.le_of_ble_eq_true rfl⟩) (fun _ => rfl) hl.1 (fun ad e0 e12 e13 => by simp [e0, e12]) (lv_room (Nat.le_of_ble_eq_true rfl)) dL_law_430 ⟨by show _ ≤ 603072; omega, by show _ ≤ 7231594; omega⟩ (fun r11 H locs _ hw => ?_)
  refine s_istore (lv' := [(6, .int r11.1), (0, .ref b), (1, .ref y0), (2, .ref y7), (3, .ref y12), (4, .ref y13), (5, .int x5)]) C0 dL_law_433 hl (by decide) rfl (fun ls hl => ?_)
  refine s_aload_n C0 dL_law_435 rfl (lv_at hl 3 rfl) ?_
  refine s_aload_n C0 dL_law_436 rfl (lv_at hl 1 rfl) ?_
  refine s_iload C0 dL_law_437 (lv_at hl 6 rfl) ?_
  refine s_iconst (v := 1) C0 dL_law_439 (by decide) ?_
  refine s_iadd C0 dL_law_440 ?_
  refine l_sld C0 hX hbl hbn hw dL_law_441 ?_
  refine s_aload_n C0 dL_law_442 rfl (lv_at hl 1 rfl) ?_
  refine s_iload C0 dL_law_443 (lv_at hl 6 rfl) ?_
  refine s_iconst (v := 2) C0 dL_law_445 (by decide) ?_
  refine s_iadd C0 dL_law_446 ?_
  refine l_sld C0 hX hbl hbn hw dL_law_447 ?_
  refine l_V (vv := vI) (As := [.int (xs ((x5 + 1) : Int32).toNatClampNeg), .int (xs ((x5 + 2) : Int32).toNatClampNeg)]) (rest := []) (kd := 7) (ci := 4) C0 hw (Or.inr ⟨rfl, rfl, rfl⟩) rfl (fun ad nT nO => c_X4_height C0.2.2.2.2.2.2 _ (xs ((x5 + 1) : Int32).toNatClampNeg) (xs ((x5 + 2) : Int32).toNatClampNeg)) (qc114 C0.1.2.2.2.2 ⟨Nat.le_of_ble_eq_true rfl, Nat.le_of_ble_eq_true rfl⟩) rfl hl.1 rfl (lv_room (Nat.le_of_ble_eq_true rfl)) dL_law_448 ⟨by show _ ≤ 603072; omega, by show _ ≤ 7231594; omega⟩ (fun r12 H locs _ hw => ?_)
  refine s_istore (lv' := [(7, .int r12.1), (6, .int r11.1), (0, .ref b), (1, .ref y0), (2, .ref y7), (3, .ref y12), (4, .ref y13), (5, .int x5)]) C0 dL_law_451 hl (by decide) rfl (fun ls hl => ?_)
  refine s_goto (tgt := 1381) C0 dL_law_453 (by decide) ?_
  refine s_iinc (k := 7) (v := (x5 + 5)) (lv' := [(5, .int (x5 + 5)), (7, .int r12.1), (6, .int r11.1), (0, .ref b), (1, .ref y0), (2, .ref y7), (3, .ref y12), (4, .ref y13)]) C0 dL_law_1381 hl rfl rfl (by decide) rfl (fun ls hl => ?_)
  refine s_goto (tgt := 28) C0 dL_law_1384 (by decide) ?_
  refine s_widen (k := 34 + 9 * (t + 1)) (n := 1366 + 230 * (t + 1)) (by omega) (by omega) ?_
  exact hrec r12.2 (x5 + 5) _ _ _ hw (lv_sub hl [3, 4, 5, 6, 7, 0] rfl)
def f_law_6 (N : Nat) (xs : Nat → Int32) (rec : Sg → Int32 → Option Unit) (σ : Sg) (x5 : Int32) : Option Unit :=
  (if ((x5 + 1) : Int32) < 0 ∨ N ≤ ((x5 + 1) : Int32).toNatClampNeg then none else (if ((x5 + 2) : Int32) < 0 ∨ N ≤ ((x5 + 2) : Int32).toNatClampNeg then none else ((f_L_wear σ (xs ((x5 + 1) : Int32).toNatClampNeg) (xs ((x5 + 2) : Int32).toNatClampNeg)).bind (fun r13 => (if ((x5 + 1) : Int32) < 0 ∨ N ≤ ((x5 + 1) : Int32).toNatClampNeg then none else (if ((x5 + 2) : Int32) < 0 ∨ N ≤ ((x5 + 2) : Int32).toNatClampNeg then none else ((f_X4_wear r13.2 (xs ((x5 + 1) : Int32).toNatClampNeg) (xs ((x5 + 2) : Int32).toNatClampNeg)).bind (fun r14 => (rec r14.2 (x5 + 5))))))))))
set_option maxRecDepth 100000 in
set_option maxHeartbeats 8000000 in
theorem b_law_6 (C0 : Cx p l s m args meth c cL_law 9 RL D cy n0) (hX : va_X b N xs s s.heap) (hbl : b < s.heap.size) (hbn : ¬ n0 ≤ b) (rec : Sg → Int32 → Option Unit) (t : Nat) (ht : t < 513) (hrec : ∀ (σ : Sg) (x5 : Int32) (H : Heap) (locs : List Loc) (ls : Array Slot), LW D cy n0 s y0 y7 y12 y13 σ H locs → lv_has ls 9 [(0, .ref b), (1, .ref y0), (2, .ref y7), (3, .ref y12), (4, .ref y13), (5, .int x5)] → Sm Qf (rec σ x5) p l e room_1 s m args below meth c H locs (34 + 9 * (t + 1)) (1366 + 230 * (t + 1)) (F0 m 28 ls [])) (σ : Sg) (x5 : Int32) (H : Heap) (locs : List Loc) (ls : Array Slot) (hw : LW D cy n0 s y0 y7 y12 y13 σ H locs) (hl : lv_has ls 9 [(0, .ref b), (1, .ref y0), (2, .ref y7), (3, .ref y12), (4, .ref y13), (5, .int x5)]) : Sm Qf (f_law_6 N xs rec σ x5) p l e room_1 s m args below meth c H locs (34 + 9 * t) (1366 + 230 * t) (F0 m 456 ls []) := by
  unfold f_law_6
  refine s_aload_n C0 dL_law_456 rfl (lv_at hl 1 rfl) ?_
  refine s_aload_n C0 dL_law_457 rfl (lv_at hl 0 rfl) ?_
  refine s_iload C0 dL_law_458 (lv_at hl 5 rfl) ?_
  refine s_iconst (v := 1) C0 dL_law_460 (by decide) ?_
  refine s_iadd C0 dL_law_461 ?_
  refine l_sld C0 hX hbl hbn hw dL_law_462 ?_
  refine s_aload_n C0 dL_law_463 rfl (lv_at hl 0 rfl) ?_
  refine s_iload C0 dL_law_464 (lv_at hl 5 rfl) ?_
  refine s_iconst (v := 2) C0 dL_law_466 (by decide) ?_
  refine s_iadd C0 dL_law_467 ?_
  refine l_sld C0 hX hbl hbn hw dL_law_468 ?_
  refine s_aload_n C0 dL_law_469 rfl (lv_at hl 3 rfl) ?_
  refine l_H (As := (fun ad => [.ref (ad 0 0), .int (xs ((x5 + 1) : Int32).toNatClampNeg), .int (xs ((x5 + 2) : Int32).toNatClampNeg), .ref (ad 12 0)])) (rest := []) C0 hw (fun ad nT nO => c_L_wear C0.2.2.2.2.2.2 _ (xs ((x5 + 1) : Int32).toNatClampNeg) (xs ((x5 + 2) : Int32).toNatClampNeg)) (qc115 C0.1.2.2.2.2 ⟨Nat.le_of_ble_eq_true rfl, Nat.le_of_ble_eq_true rfl⟩) (fun _ => rfl) hl.1 (fun ad e0 e12 e13 => by simp [e0, e12]) (lv_room (Nat.le_of_ble_eq_true rfl)) dL_law_470 ⟨by show _ ≤ 603072; omega, by show _ ≤ 7231594; omega⟩ (fun r13 H locs _ hw => ?_)
  refine s_istore (lv' := [(6, .int r13.1), (0, .ref b), (1, .ref y0), (2, .ref y7), (3, .ref y12), (4, .ref y13), (5, .int x5)]) C0 dL_law_473 hl (by decide) rfl (fun ls hl => ?_)
  refine s_aload_n C0 dL_law_475 rfl (lv_at hl 3 rfl) ?_
  refine s_aload_n C0 dL_law_476 rfl (lv_at hl 1 rfl) ?_
  refine s_iload C0 dL_law_477 (lv_at hl 6 rfl) ?_
  refine s_iconst (v := 1) C0 dL_law_479 (by decide) ?_
  refine s_iadd C0 dL_law_480 ?_
  refine l_sld C0 hX hbl hbn hw dL_law_481 ?_
  refine s_aload_n C0 dL_law_482 rfl (lv_at hl 1 rfl) ?_
  refine s_iload C0 dL_law_483 (lv_at hl 6 rfl) ?_
  refine s_iconst (v := 2) C0 dL_law_485 (by decide) ?_
  refine s_iadd C0 dL_law_486 ?_
  refine l_sld C0 hX hbl hbn hw dL_law_487 ?_
  refine l_V (vv := vI) (As := [.int (xs ((x5 + 1) : Int32).toNatClampNeg), .int (xs ((x5 + 2) : Int32).toNatClampNeg)]) (rest := []) (kd := 7) (ci := 4) C0 hw (Or.inr ⟨rfl, rfl, rfl⟩) rfl (fun ad nT nO => c_X4_wear C0.2.2.2.2.2.2 _ (xs ((x5 + 1) : Int32).toNatClampNeg) (xs ((x5 + 2) : Int32).toNatClampNeg)) (qc116 C0.1.2.2.2.2 ⟨Nat.le_of_ble_eq_true rfl, Nat.le_of_ble_eq_true rfl⟩) rfl hl.1 rfl (lv_room (Nat.le_of_ble_eq_true rfl)) dL_law_488 ⟨by show _ ≤ 603072; omega, by show _ ≤ 7231594; omega⟩ (fun r14 H locs _ hw => ?_)
  refine s_istore (lv' := [(7, .int r14.1), (6, .int r13.1), (0, .ref b), (1, .ref y0), (2, .ref y7), (3, .ref y12), (4, .ref y13), (5, .int x5)]) C0 dL_law_491 hl (by decide) rfl (fun ls hl => ?_)
  refine s_goto (tgt := 1381) C0 dL_law_493 (by decide) ?_
  refine s_iinc (k := 7) (v := (x5 + 5)) (lv' := [(5, .int (x5 + 5)), (7, .int r14.1), (6, .int r13.1), (0, .ref b), (1, .ref y0), (2, .ref y7), (3, .ref y12), (4, .ref y13)]) C0 dL_law_1381 hl rfl rfl (by decide) rfl (fun ls hl => ?_)
  refine s_goto (tgt := 28) C0 dL_law_1384 (by decide) ?_
  refine s_widen (k := 34 + 9 * (t + 1)) (n := 1366 + 230 * (t + 1)) (by omega) (by omega) ?_
  exact hrec r14.2 (x5 + 5) _ _ _ hw (lv_sub hl [3, 4, 5, 6, 7, 0] rfl)
def f_law_7 (N : Nat) (xs : Nat → Int32) (rec : Sg → Int32 → Option Unit) (σ : Sg) (x5 : Int32) : Option Unit :=
  (if ((x5 + 1) : Int32) < 0 ∨ N ≤ ((x5 + 1) : Int32).toNatClampNeg then none else ((f_L_sings σ (xs ((x5 + 1) : Int32).toNatClampNeg)).bind (fun r15 => (if ((x5 + 1) : Int32) < 0 ∨ N ≤ ((x5 + 1) : Int32).toNatClampNeg then none else ((f_X4_sings r15.2 (xs ((x5 + 1) : Int32).toNatClampNeg)).bind (fun r16 => (rec r16.2 (x5 + 5))))))))
set_option maxRecDepth 100000 in
set_option maxHeartbeats 8000000 in
theorem b_law_7 (C0 : Cx p l s m args meth c cL_law 9 RL D cy n0) (hX : va_X b N xs s s.heap) (hbl : b < s.heap.size) (hbn : ¬ n0 ≤ b) (rec : Sg → Int32 → Option Unit) (t : Nat) (ht : t < 513) (hrec : ∀ (σ : Sg) (x5 : Int32) (H : Heap) (locs : List Loc) (ls : Array Slot), LW D cy n0 s y0 y7 y12 y13 σ H locs → lv_has ls 9 [(0, .ref b), (1, .ref y0), (2, .ref y7), (3, .ref y12), (4, .ref y13), (5, .int x5)] → Sm Qf (rec σ x5) p l e room_1 s m args below meth c H locs (34 + 9 * (t + 1)) (1366 + 230 * (t + 1)) (F0 m 28 ls [])) (σ : Sg) (x5 : Int32) (H : Heap) (locs : List Loc) (ls : Array Slot) (hw : LW D cy n0 s y0 y7 y12 y13 σ H locs) (hl : lv_has ls 9 [(0, .ref b), (1, .ref y0), (2, .ref y7), (3, .ref y12), (4, .ref y13), (5, .int x5)]) : Sm Qf (f_law_7 N xs rec σ x5) p l e room_1 s m args below meth c H locs (34 + 9 * t) (1366 + 230 * t) (F0 m 496 ls []) := by
  unfold f_law_7
  refine s_aload_n C0 dL_law_496 rfl (lv_at hl 1 rfl) ?_
  refine s_aload_n C0 dL_law_497 rfl (lv_at hl 0 rfl) ?_
  refine s_iload C0 dL_law_498 (lv_at hl 5 rfl) ?_
  refine s_iconst (v := 1) C0 dL_law_500 (by decide) ?_
  refine s_iadd C0 dL_law_501 ?_
  refine l_sld C0 hX hbl hbn hw dL_law_502 ?_
  refine s_aload_n C0 dL_law_503 rfl (lv_at hl 3 rfl) ?_
  refine l_H (As := (fun ad => [.ref (ad 0 0), .int (xs ((x5 + 1) : Int32).toNatClampNeg), .ref (ad 12 0)])) (rest := []) C0 hw (fun ad nT nO => c_L_sings C0.2.2.2.2.2.2 _ (xs ((x5 + 1) : Int32).toNatClampNeg)) (qc117 C0.1.2.2.2.2 ⟨Nat.le_of_ble_eq_true rfl, Nat.le_of_ble_eq_true rfl⟩) (fun _ => rfl) hl.1 (fun ad e0 e12 e13 => by simp [e0, e12]) (lv_room (Nat.le_of_ble_eq_true rfl)) dL_law_504 ⟨by show _ ≤ 603072; omega, by show _ ≤ 7231594; omega⟩ (fun r15 H locs _ hw => ?_)
  refine s_istore (lv' := [(6, .int r15.1), (0, .ref b), (1, .ref y0), (2, .ref y7), (3, .ref y12), (4, .ref y13), (5, .int x5)]) C0 dL_law_507 hl (by decide) rfl (fun ls hl => ?_)
  refine s_aload_n C0 dL_law_509 rfl (lv_at hl 3 rfl) ?_
  refine s_aload_n C0 dL_law_510 rfl (lv_at hl 1 rfl) ?_
  refine s_iload C0 dL_law_511 (lv_at hl 6 rfl) ?_
  refine s_iconst (v := 1) C0 dL_law_513 (by decide) ?_
  refine s_iadd C0 dL_law_514 ?_
  refine l_sld C0 hX hbl hbn hw dL_law_515 ?_
  refine l_V (vv := vI) (As := [.int (xs ((x5 + 1) : Int32).toNatClampNeg)]) (rest := []) (kd := 7) (ci := 4) C0 hw (Or.inr ⟨rfl, rfl, rfl⟩) rfl (fun ad nT nO => c_X4_sings C0.2.2.2.2.2.2 _ (xs ((x5 + 1) : Int32).toNatClampNeg)) (qc118 C0.1.2.2.2.2 ⟨Nat.le_of_ble_eq_true rfl, Nat.le_of_ble_eq_true rfl⟩) rfl hl.1 rfl (lv_room (Nat.le_of_ble_eq_true rfl)) dL_law_516 ⟨by show _ ≤ 603072; omega, by show _ ≤ 7231594; omega⟩ (fun r16 H locs _ hw => ?_)
  refine s_istore (lv' := [(7, .int r16.1), (6, .int r15.1), (0, .ref b), (1, .ref y0), (2, .ref y7), (3, .ref y12), (4, .ref y13), (5, .int x5)]) C0 dL_law_519 hl (by decide) rfl (fun ls hl => ?_)
  refine s_goto (tgt := 1381) C0 dL_law_521 (by decide) ?_
  refine s_iinc (k := 7) (v := (x5 + 5)) (lv' := [(5, .int (x5 + 5)), (7, .int r16.1), (6, .int r15.1), (0, .ref b), (1, .ref y0), (2, .ref y7), (3, .ref y12), (4, .ref y13)]) C0 dL_law_1381 hl rfl rfl (by decide) rfl (fun ls hl => ?_)
  refine s_goto (tgt := 28) C0 dL_law_1384 (by decide) ?_
  refine s_widen (k := 34 + 9 * (t + 1)) (n := 1366 + 230 * (t + 1)) (by omega) (by omega) ?_
  exact hrec r16.2 (x5 + 5) _ _ _ hw (lv_sub hl [3, 4, 5, 6, 7, 0] rfl)
def f_law_8 (N : Nat) (xs : Nat → Int32) (rec : Sg → Int32 → Option Unit) (σ : Sg) (x5 : Int32) : Option Unit :=
  (if ((x5 + 1) : Int32) < 0 ∨ N ≤ ((x5 + 1) : Int32).toNatClampNeg then none else (if ((x5 + 2) : Int32) < 0 ∨ N ≤ ((x5 + 2) : Int32).toNatClampNeg then none else ((f_L_set σ (xs ((x5 + 1) : Int32).toNatClampNeg) (xs ((x5 + 2) : Int32).toNatClampNeg)).bind (fun r17 => (if ((x5 + 1) : Int32) < 0 ∨ N ≤ ((x5 + 1) : Int32).toNatClampNeg then none else (if ((x5 + 2) : Int32) < 0 ∨ N ≤ ((x5 + 2) : Int32).toNatClampNeg then none else ((f_X4_set r17.2 (xs ((x5 + 1) : Int32).toNatClampNeg) (xs ((x5 + 2) : Int32).toNatClampNeg)).bind (fun r18 => (rec r18.2 (x5 + 5))))))))))
set_option maxRecDepth 100000 in
set_option maxHeartbeats 8000000 in
theorem b_law_8 (C0 : Cx p l s m args meth c cL_law 9 RL D cy n0) (hX : va_X b N xs s s.heap) (hbl : b < s.heap.size) (hbn : ¬ n0 ≤ b) (rec : Sg → Int32 → Option Unit) (t : Nat) (ht : t < 513) (hrec : ∀ (σ : Sg) (x5 : Int32) (H : Heap) (locs : List Loc) (ls : Array Slot), LW D cy n0 s y0 y7 y12 y13 σ H locs → lv_has ls 9 [(0, .ref b), (1, .ref y0), (2, .ref y7), (3, .ref y12), (4, .ref y13), (5, .int x5)] → Sm Qf (rec σ x5) p l e room_1 s m args below meth c H locs (34 + 9 * (t + 1)) (1366 + 230 * (t + 1)) (F0 m 28 ls [])) (σ : Sg) (x5 : Int32) (H : Heap) (locs : List Loc) (ls : Array Slot) (hw : LW D cy n0 s y0 y7 y12 y13 σ H locs) (hl : lv_has ls 9 [(0, .ref b), (1, .ref y0), (2, .ref y7), (3, .ref y12), (4, .ref y13), (5, .int x5)]) : Sm Qf (f_law_8 N xs rec σ x5) p l e room_1 s m args below meth c H locs (34 + 9 * t) (1366 + 230 * t) (F0 m 524 ls []) := by
  unfold f_law_8
  refine s_aload_n C0 dL_law_524 rfl (lv_at hl 1 rfl) ?_
  refine s_aload_n C0 dL_law_525 rfl (lv_at hl 0 rfl) ?_
  refine s_iload C0 dL_law_526 (lv_at hl 5 rfl) ?_
  refine s_iconst (v := 1) C0 dL_law_528 (by decide) ?_
  refine s_iadd C0 dL_law_529 ?_
  refine l_sld C0 hX hbl hbn hw dL_law_530 ?_
  refine s_aload_n C0 dL_law_531 rfl (lv_at hl 0 rfl) ?_
  refine s_iload C0 dL_law_532 (lv_at hl 5 rfl) ?_
  refine s_iconst (v := 2) C0 dL_law_534 (by decide) ?_
  refine s_iadd C0 dL_law_535 ?_
  refine l_sld C0 hX hbl hbn hw dL_law_536 ?_
  refine s_aload_n C0 dL_law_537 rfl (lv_at hl 3 rfl) ?_
  refine l_H (As := (fun ad => [.ref (ad 0 0), .int (xs ((x5 + 1) : Int32).toNatClampNeg), .int (xs ((x5 + 2) : Int32).toNatClampNeg), .ref (ad 12 0)])) (rest := []) C0 hw (fun ad nT nO => c_L_set C0.2.2.2.2.2.2 _ (xs ((x5 + 1) : Int32).toNatClampNeg) (xs ((x5 + 2) : Int32).toNatClampNeg)) (qc119 C0.1.2.2.2.2 ⟨Nat.le_of_ble_eq_true rfl, Nat.le_of_ble_eq_true rfl⟩) (fun _ => rfl) hl.1 (fun ad e0 e12 e13 => by simp [e0, e12]) (lv_room (Nat.le_of_ble_eq_true rfl)) dL_law_538 ⟨by show _ ≤ 603072; omega, by show _ ≤ 7231594; omega⟩ (fun r17 H locs _ hw => ?_)
  refine s_istore (lv' := [(6, .int r17.1), (0, .ref b), (1, .ref y0), (2, .ref y7), (3, .ref y12), (4, .ref y13), (5, .int x5)]) C0 dL_law_541 hl (by decide) rfl (fun ls hl => ?_)
  refine s_aload_n C0 dL_law_543 rfl (lv_at hl 3 rfl) ?_
  refine s_aload_n C0 dL_law_544 rfl (lv_at hl 1 rfl) ?_
  refine s_iload C0 dL_law_545 (lv_at hl 6 rfl) ?_
  refine s_iconst (v := 1) C0 dL_law_547 (by decide) ?_
  refine s_iadd C0 dL_law_548 ?_
  refine l_sld C0 hX hbl hbn hw dL_law_549 ?_
  refine s_aload_n C0 dL_law_550 rfl (lv_at hl 1 rfl) ?_
  refine s_iload C0 dL_law_551 (lv_at hl 6 rfl) ?_
  refine s_iconst (v := 2) C0 dL_law_553 (by decide) ?_
  refine s_iadd C0 dL_law_554 ?_
  refine l_sld C0 hX hbl hbn hw dL_law_555 ?_
  refine l_V (vv := vI) (As := [.int (xs ((x5 + 1) : Int32).toNatClampNeg), .int (xs ((x5 + 2) : Int32).toNatClampNeg)]) (rest := []) (kd := 7) (ci := 4) C0 hw (Or.inr ⟨rfl, rfl, rfl⟩) rfl (fun ad nT nO => c_X4_set C0.2.2.2.2.2.2 _ (xs ((x5 + 1) : Int32).toNatClampNeg) (xs ((x5 + 2) : Int32).toNatClampNeg)) (qc120 C0.1.2.2.2.2 ⟨Nat.le_of_ble_eq_true rfl, Nat.le_of_ble_eq_true rfl⟩) rfl hl.1 rfl (lv_room (Nat.le_of_ble_eq_true rfl)) dL_law_556 ⟨by show _ ≤ 603072; omega, by show _ ≤ 7231594; omega⟩ (fun r18 H locs _ hw => ?_)
  refine s_istore (lv' := [(7, .int r18.1), (6, .int r17.1), (0, .ref b), (1, .ref y0), (2, .ref y7), (3, .ref y12), (4, .ref y13), (5, .int x5)]) C0 dL_law_559 hl (by decide) rfl (fun ls hl => ?_)
  refine s_goto (tgt := 1381) C0 dL_law_561 (by decide) ?_
  refine s_iinc (k := 7) (v := (x5 + 5)) (lv' := [(5, .int (x5 + 5)), (7, .int r18.1), (6, .int r17.1), (0, .ref b), (1, .ref y0), (2, .ref y7), (3, .ref y12), (4, .ref y13)]) C0 dL_law_1381 hl rfl rfl (by decide) rfl (fun ls hl => ?_)
  refine s_goto (tgt := 28) C0 dL_law_1384 (by decide) ?_
  refine s_widen (k := 34 + 9 * (t + 1)) (n := 1366 + 230 * (t + 1)) (by omega) (by omega) ?_
  exact hrec r18.2 (x5 + 5) _ _ _ hw (lv_sub hl [3, 4, 5, 6, 7, 0] rfl)
def f_law_9 (N : Nat) (xs : Nat → Int32) (rec : Sg → Int32 → Option Unit) (σ : Sg) (x5 : Int32) : Option Unit :=
  (if ((x5 + 1) : Int32) < 0 ∨ N ≤ ((x5 + 1) : Int32).toNatClampNeg then none else ((f_L_kerf σ (xs ((x5 + 1) : Int32).toNatClampNeg)).bind (fun r19 => (if ((x5 + 1) : Int32) < 0 ∨ N ≤ ((x5 + 1) : Int32).toNatClampNeg then none else ((f_X4_kerf r19.2 (xs ((x5 + 1) : Int32).toNatClampNeg)).bind (fun r20 => (rec r20.2 (x5 + 5))))))))
set_option maxRecDepth 100000 in
set_option maxHeartbeats 8000000 in
theorem b_law_9 (C0 : Cx p l s m args meth c cL_law 9 RL D cy n0) (hX : va_X b N xs s s.heap) (hbl : b < s.heap.size) (hbn : ¬ n0 ≤ b) (rec : Sg → Int32 → Option Unit) (t : Nat) (ht : t < 513) (hrec : ∀ (σ : Sg) (x5 : Int32) (H : Heap) (locs : List Loc) (ls : Array Slot), LW D cy n0 s y0 y7 y12 y13 σ H locs → lv_has ls 9 [(0, .ref b), (1, .ref y0), (2, .ref y7), (3, .ref y12), (4, .ref y13), (5, .int x5)] → Sm Qf (rec σ x5) p l e room_1 s m args below meth c H locs (34 + 9 * (t + 1)) (1366 + 230 * (t + 1)) (F0 m 28 ls [])) (σ : Sg) (x5 : Int32) (H : Heap) (locs : List Loc) (ls : Array Slot) (hw : LW D cy n0 s y0 y7 y12 y13 σ H locs) (hl : lv_has ls 9 [(0, .ref b), (1, .ref y0), (2, .ref y7), (3, .ref y12), (4, .ref y13), (5, .int x5)]) : Sm Qf (f_law_9 N xs rec σ x5) p l e room_1 s m args below meth c H locs (34 + 9 * t) (1366 + 230 * t) (F0 m 564 ls []) := by
  unfold f_law_9
  refine s_aload_n C0 dL_law_564 rfl (lv_at hl 1 rfl) ?_
  refine s_aload_n C0 dL_law_565 rfl (lv_at hl 0 rfl) ?_
  refine s_iload C0 dL_law_566 (lv_at hl 5 rfl) ?_
  refine s_iconst (v := 1) C0 dL_law_568 (by decide) ?_
  refine s_iadd C0 dL_law_569 ?_
  refine l_sld C0 hX hbl hbn hw dL_law_570 ?_
  refine s_aload_n C0 dL_law_571 rfl (lv_at hl 3 rfl) ?_
  refine l_H (As := (fun ad => [.ref (ad 0 0), .int (xs ((x5 + 1) : Int32).toNatClampNeg), .ref (ad 12 0)])) (rest := []) C0 hw (fun ad nT nO => c_L_kerf C0.2.2.2.2.2.2 _ (xs ((x5 + 1) : Int32).toNatClampNeg)) (qc121 C0.1.2.2.2.2 ⟨Nat.le_of_ble_eq_true rfl, Nat.le_of_ble_eq_true rfl⟩) (fun _ => rfl) hl.1 (fun ad e0 e12 e13 => by simp [e0, e12]) (lv_room (Nat.le_of_ble_eq_true rfl)) dL_law_572 ⟨by show _ ≤ 603072; omega, by show _ ≤ 7231594; omega⟩ (fun r19 H locs _ hw => ?_)
  refine s_istore (lv' := [(6, .int r19.1), (0, .ref b), (1, .ref y0), (2, .ref y7), (3, .ref y12), (4, .ref y13), (5, .int x5)]) C0 dL_law_575 hl (by decide) rfl (fun ls hl => ?_)
  refine s_aload_n C0 dL_law_577 rfl (lv_at hl 3 rfl) ?_
  refine s_aload_n C0 dL_law_578 rfl (lv_at hl 1 rfl) ?_
  refine s_iload C0 dL_law_579 (lv_at hl 6 rfl) ?_
  refine s_iconst (v := 1) C0 dL_law_581 (by decide) ?_
  refine s_iadd C0 dL_law_582 ?_
  refine l_sld C0 hX hbl hbn hw dL_law_583 ?_
  refine l_V (vv := vI) (As := [.int (xs ((x5 + 1) : Int32).toNatClampNeg)]) (rest := []) (kd := 7) (ci := 4) C0 hw (Or.inr ⟨rfl, rfl, rfl⟩) rfl (fun ad nT nO => c_X4_kerf C0.2.2.2.2.2.2 _ (xs ((x5 + 1) : Int32).toNatClampNeg)) (qc122 C0.1.2.2.2.2 ⟨Nat.le_of_ble_eq_true rfl, Nat.le_of_ble_eq_true rfl⟩) rfl hl.1 rfl (lv_room (Nat.le_of_ble_eq_true rfl)) dL_law_584 ⟨by show _ ≤ 603072; omega, by show _ ≤ 7231594; omega⟩ (fun r20 H locs _ hw => ?_)
  refine s_istore (lv' := [(7, .int r20.1), (6, .int r19.1), (0, .ref b), (1, .ref y0), (2, .ref y7), (3, .ref y12), (4, .ref y13), (5, .int x5)]) C0 dL_law_587 hl (by decide) rfl (fun ls hl => ?_)
  refine s_goto (tgt := 1381) C0 dL_law_589 (by decide) ?_
  refine s_iinc (k := 7) (v := (x5 + 5)) (lv' := [(5, .int (x5 + 5)), (7, .int r20.1), (6, .int r19.1), (0, .ref b), (1, .ref y0), (2, .ref y7), (3, .ref y12), (4, .ref y13)]) C0 dL_law_1381 hl rfl rfl (by decide) rfl (fun ls hl => ?_)
  refine s_goto (tgt := 28) C0 dL_law_1384 (by decide) ?_
  refine s_widen (k := 34 + 9 * (t + 1)) (n := 1366 + 230 * (t + 1)) (by omega) (by omega) ?_
  exact hrec r20.2 (x5 + 5) _ _ _ hw (lv_sub hl [3, 4, 5, 6, 7, 0] rfl)
def f_law_10 (N : Nat) (xs : Nat → Int32) (rec : Sg → Int32 → Option Unit) (σ : Sg) (x5 : Int32) : Option Unit :=
  (if ((x5 + 1) : Int32) < 0 ∨ N ≤ ((x5 + 1) : Int32).toNatClampNeg then none else ((f_L_gullets σ (xs ((x5 + 1) : Int32).toNatClampNeg)).bind (fun r21 => (if ((x5 + 1) : Int32) < 0 ∨ N ≤ ((x5 + 1) : Int32).toNatClampNeg then none else ((f_X4_gullets r21.2 (xs ((x5 + 1) : Int32).toNatClampNeg)).bind (fun r22 => (rec r22.2 (x5 + 5))))))))
set_option maxRecDepth 100000 in
set_option maxHeartbeats 8000000 in
theorem b_law_10 (C0 : Cx p l s m args meth c cL_law 9 RL D cy n0) (hX : va_X b N xs s s.heap) (hbl : b < s.heap.size) (hbn : ¬ n0 ≤ b) (rec : Sg → Int32 → Option Unit) (t : Nat) (ht : t < 513) (hrec : ∀ (σ : Sg) (x5 : Int32) (H : Heap) (locs : List Loc) (ls : Array Slot), LW D cy n0 s y0 y7 y12 y13 σ H locs → lv_has ls 9 [(0, .ref b), (1, .ref y0), (2, .ref y7), (3, .ref y12), (4, .ref y13), (5, .int x5)] → Sm Qf (rec σ x5) p l e room_1 s m args below meth c H locs (34 + 9 * (t + 1)) (1366 + 230 * (t + 1)) (F0 m 28 ls [])) (σ : Sg) (x5 : Int32) (H : Heap) (locs : List Loc) (ls : Array Slot) (hw : LW D cy n0 s y0 y7 y12 y13 σ H locs) (hl : lv_has ls 9 [(0, .ref b), (1, .ref y0), (2, .ref y7), (3, .ref y12), (4, .ref y13), (5, .int x5)]) : Sm Qf (f_law_10 N xs rec σ x5) p l e room_1 s m args below meth c H locs (34 + 9 * t) (1366 + 230 * t) (F0 m 592 ls []) := by
  unfold f_law_10
  refine s_aload_n C0 dL_law_592 rfl (lv_at hl 1 rfl) ?_
  refine s_aload_n C0 dL_law_593 rfl (lv_at hl 0 rfl) ?_
  refine s_iload C0 dL_law_594 (lv_at hl 5 rfl) ?_
  refine s_iconst (v := 1) C0 dL_law_596 (by decide) ?_
  refine s_iadd C0 dL_law_597 ?_
  refine l_sld C0 hX hbl hbn hw dL_law_598 ?_
  refine s_aload_n C0 dL_law_599 rfl (lv_at hl 3 rfl) ?_
  refine l_H (As := (fun ad => [.ref (ad 0 0), .int (xs ((x5 + 1) : Int32).toNatClampNeg), .ref (ad 12 0)])) (rest := []) C0 hw (fun ad nT nO => c_L_gullets C0.2.2.2.2.2.2 _ (xs ((x5 + 1) : Int32).toNatClampNeg)) (qc123 C0.1.2.2.2.2 ⟨Nat.le_of_ble_eq_true rfl, Nat.le_of_ble_eq_true rfl⟩) (fun _ => rfl) hl.1 (fun ad e0 e12 e13 => by simp [e0, e12]) (lv_room (Nat.le_of_ble_eq_true rfl)) dL_law_600 ⟨by show _ ≤ 603072; omega, by show _ ≤ 7231594; omega⟩ (fun r21 H locs _ hw => ?_)
  refine s_istore (lv' := [(6, .int r21.1), (0, .ref b), (1, .ref y0), (2, .ref y7), (3, .ref y12), (4, .ref y13), (5, .int x5)]) C0 dL_law_603 hl (by decide) rfl (fun ls hl => ?_)
  refine s_aload_n C0 dL_law_605 rfl (lv_at hl 3 rfl) ?_
  refine s_aload_n C0 dL_law_606 rfl (lv_at hl 1 rfl) ?_
  refine s_iload C0 dL_law_607 (lv_at hl 6 rfl) ?_
  refine s_iconst (v := 1) C0 dL_law_609 (by decide) ?_
  refine s_iadd C0 dL_law_610 ?_
  refine l_sld C0 hX hbl hbn hw dL_law_611 ?_
  refine l_V (vv := vI) (As := [.int (xs ((x5 + 1) : Int32).toNatClampNeg)]) (rest := []) (kd := 7) (ci := 4) C0 hw (Or.inr ⟨rfl, rfl, rfl⟩) rfl (fun ad nT nO => c_X4_gullets C0.2.2.2.2.2.2 _ (xs ((x5 + 1) : Int32).toNatClampNeg)) (qc124 C0.1.2.2.2.2 ⟨Nat.le_of_ble_eq_true rfl, Nat.le_of_ble_eq_true rfl⟩) rfl hl.1 rfl (lv_room (Nat.le_of_ble_eq_true rfl)) dL_law_612 ⟨by show _ ≤ 603072; omega, by show _ ≤ 7231594; omega⟩ (fun r22 H locs _ hw => ?_)
  refine s_istore (lv' := [(7, .int r22.1), (6, .int r21.1), (0, .ref b), (1, .ref y0), (2, .ref y7), (3, .ref y12), (4, .ref y13), (5, .int x5)]) C0 dL_law_615 hl (by decide) rfl (fun ls hl => ?_)
  refine s_goto (tgt := 1381) C0 dL_law_617 (by decide) ?_
  refine s_iinc (k := 7) (v := (x5 + 5)) (lv' := [(5, .int (x5 + 5)), (7, .int r22.1), (6, .int r21.1), (0, .ref b), (1, .ref y0), (2, .ref y7), (3, .ref y12), (4, .ref y13)]) C0 dL_law_1381 hl rfl rfl (by decide) rfl (fun ls hl => ?_)
  refine s_goto (tgt := 28) C0 dL_law_1384 (by decide) ?_
  refine s_widen (k := 34 + 9 * (t + 1)) (n := 1366 + 230 * (t + 1)) (by omega) (by omega) ?_
  exact hrec r22.2 (x5 + 5) _ _ _ hw (lv_sub hl [3, 4, 5, 6, 7, 0] rfl)
def f_law_11 (N : Nat) (xs : Nat → Int32) (rec : Sg → Int32 → Option Unit) (σ : Sg) (x5 : Int32) : Option Unit :=
  (if ((x5 + 1) : Int32) < 0 ∨ N ≤ ((x5 + 1) : Int32).toNatClampNeg then none else ((f_L_thickness σ (xs ((x5 + 1) : Int32).toNatClampNeg)).bind (fun r23 => (if ((x5 + 1) : Int32) < 0 ∨ N ≤ ((x5 + 1) : Int32).toNatClampNeg then none else ((f_X4_thickness r23.2 (xs ((x5 + 1) : Int32).toNatClampNeg)).bind (fun r24 => (rec r24.2 (x5 + 5))))))))
set_option maxRecDepth 100000 in
set_option maxHeartbeats 8000000 in
theorem b_law_11 (C0 : Cx p l s m args meth c cL_law 9 RL D cy n0) (hX : va_X b N xs s s.heap) (hbl : b < s.heap.size) (hbn : ¬ n0 ≤ b) (rec : Sg → Int32 → Option Unit) (t : Nat) (ht : t < 513) (hrec : ∀ (σ : Sg) (x5 : Int32) (H : Heap) (locs : List Loc) (ls : Array Slot), LW D cy n0 s y0 y7 y12 y13 σ H locs → lv_has ls 9 [(0, .ref b), (1, .ref y0), (2, .ref y7), (3, .ref y12), (4, .ref y13), (5, .int x5)] → Sm Qf (rec σ x5) p l e room_1 s m args below meth c H locs (34 + 9 * (t + 1)) (1366 + 230 * (t + 1)) (F0 m 28 ls [])) (σ : Sg) (x5 : Int32) (H : Heap) (locs : List Loc) (ls : Array Slot) (hw : LW D cy n0 s y0 y7 y12 y13 σ H locs) (hl : lv_has ls 9 [(0, .ref b), (1, .ref y0), (2, .ref y7), (3, .ref y12), (4, .ref y13), (5, .int x5)]) : Sm Qf (f_law_11 N xs rec σ x5) p l e room_1 s m args below meth c H locs (34 + 9 * t) (1366 + 230 * t) (F0 m 620 ls []) := by
  unfold f_law_11
  refine s_aload_n C0 dL_law_620 rfl (lv_at hl 1 rfl) ?_
  refine s_aload_n C0 dL_law_621 rfl (lv_at hl 0 rfl) ?_
  refine s_iload C0 dL_law_622 (lv_at hl 5 rfl) ?_
  refine s_iconst (v := 1) C0 dL_law_624 (by decide) ?_
  refine s_iadd C0 dL_law_625 ?_
  refine l_sld C0 hX hbl hbn hw dL_law_626 ?_
  refine s_aload_n C0 dL_law_627 rfl (lv_at hl 3 rfl) ?_
  refine l_H (As := (fun ad => [.ref (ad 0 0), .int (xs ((x5 + 1) : Int32).toNatClampNeg), .ref (ad 12 0)])) (rest := []) C0 hw (fun ad nT nO => c_L_thickness C0.2.2.2.2.2.2 _ (xs ((x5 + 1) : Int32).toNatClampNeg)) (qc125 C0.1.2.2.2.2 ⟨Nat.le_of_ble_eq_true rfl, Nat.le_of_ble_eq_true rfl⟩) (fun _ => rfl) hl.1 (fun ad e0 e12 e13 => by simp [e0, e12]) (lv_room (Nat.le_of_ble_eq_true rfl)) dL_law_628 ⟨by show _ ≤ 603072; omega, by show _ ≤ 7231594; omega⟩ (fun r23 H locs _ hw => ?_)
  refine s_istore (lv' := [(6, .int r23.1), (0, .ref b), (1, .ref y0), (2, .ref y7), (3, .ref y12), (4, .ref y13), (5, .int x5)]) C0 dL_law_631 hl (by decide) rfl (fun ls hl => ?_)
  refine s_aload_n C0 dL_law_633 rfl (lv_at hl 3 rfl) ?_
  refine s_aload_n C0 dL_law_634 rfl (lv_at hl 1 rfl) ?_
  refine s_iload C0 dL_law_635 (lv_at hl 6 rfl) ?_
  refine s_iconst (v := 1) C0 dL_law_637 (by decide) ?_
  refine s_iadd C0 dL_law_638 ?_
  refine l_sld C0 hX hbl hbn hw dL_law_639 ?_
  refine l_V (vv := vI) (As := [.int (xs ((x5 + 1) : Int32).toNatClampNeg)]) (rest := []) (kd := 7) (ci := 4) C0 hw (Or.inr ⟨rfl, rfl, rfl⟩) rfl (fun ad nT nO => c_X4_thickness C0.2.2.2.2.2.2 _ (xs ((x5 + 1) : Int32).toNatClampNeg)) (qc126 C0.1.2.2.2.2 ⟨Nat.le_of_ble_eq_true rfl, Nat.le_of_ble_eq_true rfl⟩) rfl hl.1 rfl (lv_room (Nat.le_of_ble_eq_true rfl)) dL_law_640 ⟨by show _ ≤ 603072; omega, by show _ ≤ 7231594; omega⟩ (fun r24 H locs _ hw => ?_)
  refine s_istore (lv' := [(7, .int r24.1), (6, .int r23.1), (0, .ref b), (1, .ref y0), (2, .ref y7), (3, .ref y12), (4, .ref y13), (5, .int x5)]) C0 dL_law_643 hl (by decide) rfl (fun ls hl => ?_)
  refine s_goto (tgt := 1381) C0 dL_law_645 (by decide) ?_
  refine s_iinc (k := 7) (v := (x5 + 5)) (lv' := [(5, .int (x5 + 5)), (7, .int r24.1), (6, .int r23.1), (0, .ref b), (1, .ref y0), (2, .ref y7), (3, .ref y12), (4, .ref y13)]) C0 dL_law_1381 hl rfl rfl (by decide) rfl (fun ls hl => ?_)
  refine s_goto (tgt := 28) C0 dL_law_1384 (by decide) ?_
  refine s_widen (k := 34 + 9 * (t + 1)) (n := 1366 + 230 * (t + 1)) (by omega) (by omega) ?_
  exact hrec r24.2 (x5 + 5) _ _ _ hw (lv_sub hl [3, 4, 5, 6, 7, 0] rfl)
def f_law_12 (N : Nat) (xs : Nat → Int32) (rec : Sg → Int32 → Option Unit) (σ : Sg) (x5 : Int32) : Option Unit :=
  (if ((x5 + 1) : Int32) < 0 ∨ N ≤ ((x5 + 1) : Int32).toNatClampNeg then none else ((f_L_state σ (xs ((x5 + 1) : Int32).toNatClampNeg)).bind (fun r25 => (if ((x5 + 1) : Int32) < 0 ∨ N ≤ ((x5 + 1) : Int32).toNatClampNeg then none else ((f_X4_state r25.2 (xs ((x5 + 1) : Int32).toNatClampNeg)).bind (fun r26 => (rec r26.2 (x5 + 5))))))))
set_option maxRecDepth 100000 in
set_option maxHeartbeats 8000000 in
theorem b_law_12 (C0 : Cx p l s m args meth c cL_law 9 RL D cy n0) (hX : va_X b N xs s s.heap) (hbl : b < s.heap.size) (hbn : ¬ n0 ≤ b) (rec : Sg → Int32 → Option Unit) (t : Nat) (ht : t < 513) (hrec : ∀ (σ : Sg) (x5 : Int32) (H : Heap) (locs : List Loc) (ls : Array Slot), LW D cy n0 s y0 y7 y12 y13 σ H locs → lv_has ls 9 [(0, .ref b), (1, .ref y0), (2, .ref y7), (3, .ref y12), (4, .ref y13), (5, .int x5)] → Sm Qf (rec σ x5) p l e room_1 s m args below meth c H locs (34 + 9 * (t + 1)) (1366 + 230 * (t + 1)) (F0 m 28 ls [])) (σ : Sg) (x5 : Int32) (H : Heap) (locs : List Loc) (ls : Array Slot) (hw : LW D cy n0 s y0 y7 y12 y13 σ H locs) (hl : lv_has ls 9 [(0, .ref b), (1, .ref y0), (2, .ref y7), (3, .ref y12), (4, .ref y13), (5, .int x5)]) : Sm Qf (f_law_12 N xs rec σ x5) p l e room_1 s m args below meth c H locs (34 + 9 * t) (1366 + 230 * t) (F0 m 648 ls []) := by
  unfold f_law_12
  refine s_aload_n C0 dL_law_648 rfl (lv_at hl 1 rfl) ?_
  refine s_aload_n C0 dL_law_649 rfl (lv_at hl 0 rfl) ?_
  refine s_iload C0 dL_law_650 (lv_at hl 5 rfl) ?_
  refine s_iconst (v := 1) C0 dL_law_652 (by decide) ?_
  refine s_iadd C0 dL_law_653 ?_
  refine l_sld C0 hX hbl hbn hw dL_law_654 ?_
  refine s_aload_n C0 dL_law_655 rfl (lv_at hl 3 rfl) ?_
  refine l_H (As := (fun ad => [.ref (ad 0 0), .int (xs ((x5 + 1) : Int32).toNatClampNeg), .ref (ad 12 0)])) (rest := []) C0 hw (fun ad nT nO => c_L_state C0.2.2.2.2.2.2 _ (xs ((x5 + 1) : Int32).toNatClampNeg)) (qc127 C0.1.2.2.2.2 ⟨Nat.le_of_ble_eq_true rfl, Nat.le_of_ble_eq_true rfl⟩) (fun _ => rfl) hl.1 (fun ad e0 e12 e13 => by simp [e0, e12]) (lv_room (Nat.le_of_ble_eq_true rfl)) dL_law_656 ⟨by show _ ≤ 603072; omega, by show _ ≤ 7231594; omega⟩ (fun r25 H locs _ hw => ?_)
  refine s_istore (lv' := [(6, .int r25.1), (0, .ref b), (1, .ref y0), (2, .ref y7), (3, .ref y12), (4, .ref y13), (5, .int x5)]) C0 dL_law_659 hl (by decide) rfl (fun ls hl => ?_)
  refine s_aload_n C0 dL_law_661 rfl (lv_at hl 3 rfl) ?_
  refine s_aload_n C0 dL_law_662 rfl (lv_at hl 1 rfl) ?_
  refine s_iload C0 dL_law_663 (lv_at hl 6 rfl) ?_
  refine s_iconst (v := 1) C0 dL_law_665 (by decide) ?_
  refine s_iadd C0 dL_law_666 ?_
  refine l_sld C0 hX hbl hbn hw dL_law_667 ?_
  refine l_V (vv := vI) (As := [.int (xs ((x5 + 1) : Int32).toNatClampNeg)]) (rest := []) (kd := 7) (ci := 4) C0 hw (Or.inr ⟨rfl, rfl, rfl⟩) rfl (fun ad nT nO => c_X4_state C0.2.2.2.2.2.2 _ (xs ((x5 + 1) : Int32).toNatClampNeg)) (qc128 C0.1.2.2.2.2 ⟨Nat.le_of_ble_eq_true rfl, Nat.le_of_ble_eq_true rfl⟩) rfl hl.1 rfl (lv_room (Nat.le_of_ble_eq_true rfl)) dL_law_668 ⟨by show _ ≤ 603072; omega, by show _ ≤ 7231594; omega⟩ (fun r26 H locs _ hw => ?_)
  refine s_istore (lv' := [(7, .int r26.1), (6, .int r25.1), (0, .ref b), (1, .ref y0), (2, .ref y7), (3, .ref y12), (4, .ref y13), (5, .int x5)]) C0 dL_law_671 hl (by decide) rfl (fun ls hl => ?_)
  refine s_goto (tgt := 1381) C0 dL_law_673 (by decide) ?_
  refine s_iinc (k := 7) (v := (x5 + 5)) (lv' := [(5, .int (x5 + 5)), (7, .int r26.1), (6, .int r25.1), (0, .ref b), (1, .ref y0), (2, .ref y7), (3, .ref y12), (4, .ref y13)]) C0 dL_law_1381 hl rfl rfl (by decide) rfl (fun ls hl => ?_)
  refine s_goto (tgt := 28) C0 dL_law_1384 (by decide) ?_
  refine s_widen (k := 34 + 9 * (t + 1)) (n := 1366 + 230 * (t + 1)) (by omega) (by omega) ?_
  exact hrec r26.2 (x5 + 5) _ _ _ hw (lv_sub hl [3, 4, 5, 6, 7, 0] rfl)
def f_law_13 (N : Nat) (xs : Nat → Int32) (rec : Sg → Int32 → Option Unit) (σ : Sg) (x5 : Int32) : Option Unit :=
  (if ((x5 + 1) : Int32) < 0 ∨ N ≤ ((x5 + 1) : Int32).toNatClampNeg then none else (if ((x5 + 2) : Int32) < 0 ∨ N ≤ ((x5 + 2) : Int32).toNatClampNeg then none else (if ((x5 + 3) : Int32) < 0 ∨ N ≤ ((x5 + 3) : Int32).toNatClampNeg then none else ((f_L_harden σ (xs ((x5 + 1) : Int32).toNatClampNeg) (xs ((x5 + 2) : Int32).toNatClampNeg) ((((xs ((x5 + 3) : Int32).toNatClampNeg) : Int32).toUInt32 % 65536).toInt32)).bind (fun r27 => (if ((x5 + 1) : Int32) < 0 ∨ N ≤ ((x5 + 1) : Int32).toNatClampNeg then none else (if ((x5 + 2) : Int32) < 0 ∨ N ≤ ((x5 + 2) : Int32).toNatClampNeg then none else (if ((x5 + 3) : Int32) < 0 ∨ N ≤ ((x5 + 3) : Int32).toNatClampNeg then none else ((f_X4_harden r27.2 (xs ((x5 + 1) : Int32).toNatClampNeg) (xs ((x5 + 2) : Int32).toNatClampNeg) ((((xs ((x5 + 3) : Int32).toNatClampNeg) : Int32).toUInt32 % 65536).toInt32)).bind (fun r28 => (rec r28.2 (x5 + 5))))))))))))
set_option maxRecDepth 100000 in
set_option maxHeartbeats 8000000 in
theorem b_law_13 (C0 : Cx p l s m args meth c cL_law 9 RL D cy n0) (hX : va_X b N xs s s.heap) (hbl : b < s.heap.size) (hbn : ¬ n0 ≤ b) (rec : Sg → Int32 → Option Unit) (t : Nat) (ht : t < 513) (hrec : ∀ (σ : Sg) (x5 : Int32) (H : Heap) (locs : List Loc) (ls : Array Slot), LW D cy n0 s y0 y7 y12 y13 σ H locs → lv_has ls 9 [(0, .ref b), (1, .ref y0), (2, .ref y7), (3, .ref y12), (4, .ref y13), (5, .int x5)] → Sm Qf (rec σ x5) p l e room_1 s m args below meth c H locs (34 + 9 * (t + 1)) (1366 + 230 * (t + 1)) (F0 m 28 ls [])) (σ : Sg) (x5 : Int32) (H : Heap) (locs : List Loc) (ls : Array Slot) (hw : LW D cy n0 s y0 y7 y12 y13 σ H locs) (hl : lv_has ls 9 [(0, .ref b), (1, .ref y0), (2, .ref y7), (3, .ref y12), (4, .ref y13), (5, .int x5)]) : Sm Qf (f_law_13 N xs rec σ x5) p l e room_1 s m args below meth c H locs (34 + 9 * t) (1366 + 230 * t) (F0 m 676 ls []) := by
  unfold f_law_13
  refine s_aload_n C0 dL_law_676 rfl (lv_at hl 1 rfl) ?_
  refine s_aload_n C0 dL_law_677 rfl (lv_at hl 0 rfl) ?_
  refine s_iload C0 dL_law_678 (lv_at hl 5 rfl) ?_
  refine s_iconst (v := 1) C0 dL_law_680 (by decide) ?_
  refine s_iadd C0 dL_law_681 ?_
  refine l_sld C0 hX hbl hbn hw dL_law_682 ?_
  refine s_aload_n C0 dL_law_683 rfl (lv_at hl 0 rfl) ?_
  refine s_iload C0 dL_law_684 (lv_at hl 5 rfl) ?_
  refine s_iconst (v := 2) C0 dL_law_686 (by decide) ?_
  refine s_iadd C0 dL_law_687 ?_
  refine l_sld C0 hX hbl hbn hw dL_law_688 ?_
  refine s_aload_n C0 dL_law_689 rfl (lv_at hl 0 rfl) ?_
  refine s_iload C0 dL_law_690 (lv_at hl 5 rfl) ?_
  refine s_iconst (v := 3) C0 dL_law_692 (by decide) ?_
  refine s_iadd C0 dL_law_693 ?_
  refine l_sld C0 hX hbl hbn hw dL_law_694 ?_
  refine s_i2c C0 dL_law_695 rfl ?_
  refine s_aload_n C0 dL_law_696 rfl (lv_at hl 3 rfl) ?_
  refine l_H (As := (fun ad => [.ref (ad 0 0), .int (xs ((x5 + 1) : Int32).toNatClampNeg), .int (xs ((x5 + 2) : Int32).toNatClampNeg), .int ((((xs ((x5 + 3) : Int32).toNatClampNeg) : Int32).toUInt32 % 65536).toInt32), .ref (ad 12 0)])) (rest := []) C0 hw (fun ad nT nO => c_L_harden C0.2.2.2.2.2.2 _ (xs ((x5 + 1) : Int32).toNatClampNeg) (xs ((x5 + 2) : Int32).toNatClampNeg) ((((xs ((x5 + 3) : Int32).toNatClampNeg) : Int32).toUInt32 % 65536).toInt32)) (qc129 C0.1.2.2.2.2 ⟨Nat.le_of_ble_eq_true rfl, Nat.le_of_ble_eq_true rfl⟩) (fun _ => rfl) hl.1 (fun ad e0 e12 e13 => by simp [e0, e12]) (lv_room (Nat.le_of_ble_eq_true rfl)) dL_law_697 ⟨by show _ ≤ 603072; omega, by show _ ≤ 7231594; omega⟩ (fun r27 H locs _ hw => ?_)
  refine s_istore (lv' := [(6, .int r27.1), (0, .ref b), (1, .ref y0), (2, .ref y7), (3, .ref y12), (4, .ref y13), (5, .int x5)]) C0 dL_law_700 hl (by decide) rfl (fun ls hl => ?_)
  refine s_aload_n C0 dL_law_702 rfl (lv_at hl 3 rfl) ?_
  refine s_aload_n C0 dL_law_703 rfl (lv_at hl 1 rfl) ?_
  refine s_iload C0 dL_law_704 (lv_at hl 6 rfl) ?_
  refine s_iconst (v := 1) C0 dL_law_706 (by decide) ?_
  refine s_iadd C0 dL_law_707 ?_
  refine l_sld C0 hX hbl hbn hw dL_law_708 ?_
  refine s_aload_n C0 dL_law_709 rfl (lv_at hl 1 rfl) ?_
  refine s_iload C0 dL_law_710 (lv_at hl 6 rfl) ?_
  refine s_iconst (v := 2) C0 dL_law_712 (by decide) ?_
  refine s_iadd C0 dL_law_713 ?_
  refine l_sld C0 hX hbl hbn hw dL_law_714 ?_
  refine s_aload_n C0 dL_law_715 rfl (lv_at hl 1 rfl) ?_
  refine s_iload C0 dL_law_716 (lv_at hl 6 rfl) ?_
  refine s_iconst (v := 3) C0 dL_law_718 (by decide) ?_
  refine s_iadd C0 dL_law_719 ?_
  refine l_sld C0 hX hbl hbn hw dL_law_720 ?_
  refine s_i2c C0 dL_law_721 rfl ?_
  refine l_V (vv := vI) (As := [.int (xs ((x5 + 1) : Int32).toNatClampNeg), .int (xs ((x5 + 2) : Int32).toNatClampNeg), .int ((((xs ((x5 + 3) : Int32).toNatClampNeg) : Int32).toUInt32 % 65536).toInt32)]) (rest := []) (kd := 7) (ci := 4) C0 hw (Or.inr ⟨rfl, rfl, rfl⟩) rfl (fun ad nT nO => c_X4_harden C0.2.2.2.2.2.2 _ (xs ((x5 + 1) : Int32).toNatClampNeg) (xs ((x5 + 2) : Int32).toNatClampNeg) ((((xs ((x5 + 3) : Int32).toNatClampNeg) : Int32).toUInt32 % 65536).toInt32)) (qc130 C0.1.2.2.2.2 ⟨Nat.le_of_ble_eq_true rfl, Nat.le_of_ble_eq_true rfl⟩) rfl hl.1 rfl (lv_room (Nat.le_of_ble_eq_true rfl)) dL_law_722 ⟨by show _ ≤ 603072; omega, by show _ ≤ 7231594; omega⟩ (fun r28 H locs _ hw => ?_)
  refine s_istore (lv' := [(7, .int r28.1), (6, .int r27.1), (0, .ref b), (1, .ref y0), (2, .ref y7), (3, .ref y12), (4, .ref y13), (5, .int x5)]) C0 dL_law_725 hl (by decide) rfl (fun ls hl => ?_)
  refine s_goto (tgt := 1381) C0 dL_law_727 (by decide) ?_
  refine s_iinc (k := 7) (v := (x5 + 5)) (lv' := [(5, .int (x5 + 5)), (7, .int r28.1), (6, .int r27.1), (0, .ref b), (1, .ref y0), (2, .ref y7), (3, .ref y12), (4, .ref y13)]) C0 dL_law_1381 hl rfl rfl (by decide) rfl (fun ls hl => ?_)
  refine s_goto (tgt := 28) C0 dL_law_1384 (by decide) ?_
  refine s_widen (k := 34 + 9 * (t + 1)) (n := 1366 + 230 * (t + 1)) (by omega) (by omega) ?_
  exact hrec r28.2 (x5 + 5) _ _ _ hw (lv_sub hl [3, 4, 5, 6, 7, 0] rfl)
def f_law_14 (N : Nat) (xs : Nat → Int32) (rec : Sg → Int32 → Option Unit) (σ : Sg) (x5 : Int32) : Option Unit :=
  (if ((x5 + 1) : Int32) < 0 ∨ N ≤ ((x5 + 1) : Int32).toNatClampNeg then none else ((f_L_hardness σ (xs ((x5 + 1) : Int32).toNatClampNeg)).bind (fun r29 => (if ((x5 + 1) : Int32) < 0 ∨ N ≤ ((x5 + 1) : Int32).toNatClampNeg then none else ((f_X4_hardness r29.2 (xs ((x5 + 1) : Int32).toNatClampNeg)).bind (fun r30 => (rec r30.2 (x5 + 5))))))))
set_option maxRecDepth 100000 in
set_option maxHeartbeats 8000000 in
theorem b_law_14 (C0 : Cx p l s m args meth c cL_law 9 RL D cy n0) (hX : va_X b N xs s s.heap) (hbl : b < s.heap.size) (hbn : ¬ n0 ≤ b) (rec : Sg → Int32 → Option Unit) (t : Nat) (ht : t < 513) (hrec : ∀ (σ : Sg) (x5 : Int32) (H : Heap) (locs : List Loc) (ls : Array Slot), LW D cy n0 s y0 y7 y12 y13 σ H locs → lv_has ls 9 [(0, .ref b), (1, .ref y0), (2, .ref y7), (3, .ref y12), (4, .ref y13), (5, .int x5)] → Sm Qf (rec σ x5) p l e room_1 s m args below meth c H locs (34 + 9 * (t + 1)) (1366 + 230 * (t + 1)) (F0 m 28 ls [])) (σ : Sg) (x5 : Int32) (H : Heap) (locs : List Loc) (ls : Array Slot) (hw : LW D cy n0 s y0 y7 y12 y13 σ H locs) (hl : lv_has ls 9 [(0, .ref b), (1, .ref y0), (2, .ref y7), (3, .ref y12), (4, .ref y13), (5, .int x5)]) : Sm Qf (f_law_14 N xs rec σ x5) p l e room_1 s m args below meth c H locs (34 + 9 * t) (1366 + 230 * t) (F0 m 730 ls []) := by
  unfold f_law_14
  refine s_aload_n C0 dL_law_730 rfl (lv_at hl 1 rfl) ?_
  refine s_aload_n C0 dL_law_731 rfl (lv_at hl 0 rfl) ?_
  refine s_iload C0 dL_law_732 (lv_at hl 5 rfl) ?_
  refine s_iconst (v := 1) C0 dL_law_734 (by decide) ?_
  refine s_iadd C0 dL_law_735 ?_
  refine l_sld C0 hX hbl hbn hw dL_law_736 ?_
  refine s_aload_n C0 dL_law_737 rfl (lv_at hl 3 rfl) ?_
  refine l_H (As := (fun ad => [.ref (ad 0 0), .int (xs ((x5 + 1) : Int32).toNatClampNeg), .ref (ad 12 0)])) (rest := []) C0 hw (fun ad nT nO => c_L_hardness C0.2.2.2.2.2.2 _ (xs ((x5 + 1) : Int32).toNatClampNeg)) (qc131 C0.1.2.2.2.2 ⟨Nat.le_of_ble_eq_true rfl, Nat.le_of_ble_eq_true rfl⟩) (fun _ => rfl) hl.1 (fun ad e0 e12 e13 => by simp [e0, e12]) (lv_room (Nat.le_of_ble_eq_true rfl)) dL_law_738 ⟨by show _ ≤ 603072; omega, by show _ ≤ 7231594; omega⟩ (fun r29 H locs _ hw => ?_)
  refine s_istore (lv' := [(6, .int r29.1), (0, .ref b), (1, .ref y0), (2, .ref y7), (3, .ref y12), (4, .ref y13), (5, .int x5)]) C0 dL_law_741 hl (by decide) rfl (fun ls hl => ?_)
  refine s_aload_n C0 dL_law_743 rfl (lv_at hl 3 rfl) ?_
  refine s_aload_n C0 dL_law_744 rfl (lv_at hl 1 rfl) ?_
  refine s_iload C0 dL_law_745 (lv_at hl 6 rfl) ?_
  refine s_iconst (v := 1) C0 dL_law_747 (by decide) ?_
  refine s_iadd C0 dL_law_748 ?_
  refine l_sld C0 hX hbl hbn hw dL_law_749 ?_
  refine l_V (vv := vI) (As := [.int (xs ((x5 + 1) : Int32).toNatClampNeg)]) (rest := []) (kd := 7) (ci := 4) C0 hw (Or.inr ⟨rfl, rfl, rfl⟩) rfl (fun ad nT nO => c_X4_hardness C0.2.2.2.2.2.2 _ (xs ((x5 + 1) : Int32).toNatClampNeg)) (qc132 C0.1.2.2.2.2 ⟨Nat.le_of_ble_eq_true rfl, Nat.le_of_ble_eq_true rfl⟩) rfl hl.1 rfl (lv_room (Nat.le_of_ble_eq_true rfl)) dL_law_750 ⟨by show _ ≤ 603072; omega, by show _ ≤ 7231594; omega⟩ (fun r30 H locs _ hw => ?_)
  refine s_istore (lv' := [(7, .int r30.1), (6, .int r29.1), (0, .ref b), (1, .ref y0), (2, .ref y7), (3, .ref y12), (4, .ref y13), (5, .int x5)]) C0 dL_law_753 hl (by decide) rfl (fun ls hl => ?_)
  refine s_goto (tgt := 1381) C0 dL_law_755 (by decide) ?_
  refine s_iinc (k := 7) (v := (x5 + 5)) (lv' := [(5, .int (x5 + 5)), (7, .int r30.1), (6, .int r29.1), (0, .ref b), (1, .ref y0), (2, .ref y7), (3, .ref y12), (4, .ref y13)]) C0 dL_law_1381 hl rfl rfl (by decide) rfl (fun ls hl => ?_)
  refine s_goto (tgt := 28) C0 dL_law_1384 (by decide) ?_
  refine s_widen (k := 34 + 9 * (t + 1)) (n := 1366 + 230 * (t + 1)) (by omega) (by omega) ?_
  exact hrec r30.2 (x5 + 5) _ _ _ hw (lv_sub hl [3, 4, 5, 6, 7, 0] rfl)
def f_law_15 (N : Nat) (xs : Nat → Int32) (rec : Sg → Int32 → Option Unit) (σ : Sg) (x5 : Int32) : Option Unit :=
  (if ((x5 + 1) : Int32) < 0 ∨ N ≤ ((x5 + 1) : Int32).toNatClampNeg then none else ((f_L_bend σ (xs ((x5 + 1) : Int32).toNatClampNeg)).bind (fun r31 => (if ((x5 + 1) : Int32) < 0 ∨ N ≤ ((x5 + 1) : Int32).toNatClampNeg then none else ((f_X4_bend r31.2 (xs ((x5 + 1) : Int32).toNatClampNeg)).bind (fun r32 => (rec r32.2 (x5 + 5))))))))
set_option maxRecDepth 100000 in
set_option maxHeartbeats 8000000 in
theorem b_law_15 (C0 : Cx p l s m args meth c cL_law 9 RL D cy n0) (hX : va_X b N xs s s.heap) (hbl : b < s.heap.size) (hbn : ¬ n0 ≤ b) (rec : Sg → Int32 → Option Unit) (t : Nat) (ht : t < 513) (hrec : ∀ (σ : Sg) (x5 : Int32) (H : Heap) (locs : List Loc) (ls : Array Slot), LW D cy n0 s y0 y7 y12 y13 σ H locs → lv_has ls 9 [(0, .ref b), (1, .ref y0), (2, .ref y7), (3, .ref y12), (4, .ref y13), (5, .int x5)] → Sm Qf (rec σ x5) p l e room_1 s m args below meth c H locs (34 + 9 * (t + 1)) (1366 + 230 * (t + 1)) (F0 m 28 ls [])) (σ : Sg) (x5 : Int32) (H : Heap) (locs : List Loc) (ls : Array Slot) (hw : LW D cy n0 s y0 y7 y12 y13 σ H locs) (hl : lv_has ls 9 [(0, .ref b), (1, .ref y0), (2, .ref y7), (3, .ref y12), (4, .ref y13), (5, .int x5)]) : Sm Qf (f_law_15 N xs rec σ x5) p l e room_1 s m args below meth c H locs (34 + 9 * t) (1366 + 230 * t) (F0 m 758 ls []) := by
  unfold f_law_15
  refine s_aload_n C0 dL_law_758 rfl (lv_at hl 1 rfl) ?_
  refine s_aload_n C0 dL_law_759 rfl (lv_at hl 0 rfl) ?_
  refine s_iload C0 dL_law_760 (lv_at hl 5 rfl) ?_
  refine s_iconst (v := 1) C0 dL_law_762 (by decide) ?_
  refine s_iadd C0 dL_law_763 ?_
  refine l_sld C0 hX hbl hbn hw dL_law_764 ?_
  refine s_aload_n C0 dL_law_765 rfl (lv_at hl 3 rfl) ?_
  refine l_H (As := (fun ad => [.ref (ad 0 0), .int (xs ((x5 + 1) : Int32).toNatClampNeg), .ref (ad 12 0)])) (rest := []) C0 hw (fun ad nT nO => c_L_bend C0.2.2.2.2.2.2 _ (xs ((x5 + 1) : Int32).toNatClampNeg)) (qc133 C0.1.2.2.2.2 ⟨Nat.le_of_ble_eq_true rfl, Nat.le_of_ble_eq_true rfl⟩) (fun _ => rfl) hl.1 (fun ad e0 e12 e13 => by simp [e0, e12]) (lv_room (Nat.le_of_ble_eq_true rfl)) dL_law_766 ⟨by show _ ≤ 603072; omega, by show _ ≤ 7231594; omega⟩ (fun r31 H locs _ hw => ?_)
  refine s_istore (lv' := [(6, .int r31.1), (0, .ref b), (1, .ref y0), (2, .ref y7), (3, .ref y12), (4, .ref y13), (5, .int x5)]) C0 dL_law_769 hl (by decide) rfl (fun ls hl => ?_)
  refine s_aload_n C0 dL_law_771 rfl (lv_at hl 3 rfl) ?_
  refine s_aload_n C0 dL_law_772 rfl (lv_at hl 1 rfl) ?_
  refine s_iload C0 dL_law_773 (lv_at hl 6 rfl) ?_
  refine s_iconst (v := 1) C0 dL_law_775 (by decide) ?_
  refine s_iadd C0 dL_law_776 ?_
  refine l_sld C0 hX hbl hbn hw dL_law_777 ?_
  refine l_V (vv := vI) (As := [.int (xs ((x5 + 1) : Int32).toNatClampNeg)]) (rest := []) (kd := 7) (ci := 4) C0 hw (Or.inr ⟨rfl, rfl, rfl⟩) rfl (fun ad nT nO => c_X4_bend C0.2.2.2.2.2.2 _ (xs ((x5 + 1) : Int32).toNatClampNeg)) (qc134 C0.1.2.2.2.2 ⟨Nat.le_of_ble_eq_true rfl, Nat.le_of_ble_eq_true rfl⟩) rfl hl.1 rfl (lv_room (Nat.le_of_ble_eq_true rfl)) dL_law_778 ⟨by show _ ≤ 603072; omega, by show _ ≤ 7231594; omega⟩ (fun r32 H locs _ hw => ?_)
  refine s_istore (lv' := [(7, .int r32.1), (6, .int r31.1), (0, .ref b), (1, .ref y0), (2, .ref y7), (3, .ref y12), (4, .ref y13), (5, .int x5)]) C0 dL_law_781 hl (by decide) rfl (fun ls hl => ?_)
  refine s_goto (tgt := 1381) C0 dL_law_783 (by decide) ?_
  refine s_iinc (k := 7) (v := (x5 + 5)) (lv' := [(5, .int (x5 + 5)), (7, .int r32.1), (6, .int r31.1), (0, .ref b), (1, .ref y0), (2, .ref y7), (3, .ref y12), (4, .ref y13)]) C0 dL_law_1381 hl rfl rfl (by decide) rfl (fun ls hl => ?_)
  refine s_goto (tgt := 28) C0 dL_law_1384 (by decide) ?_
  refine s_widen (k := 34 + 9 * (t + 1)) (n := 1366 + 230 * (t + 1)) (by omega) (by omega) ?_
  exact hrec r32.2 (x5 + 5) _ _ _ hw (lv_sub hl [3, 4, 5, 6, 7, 0] rfl)
def f_law_16 (N : Nat) (xs : Nat → Int32) (rec : Sg → Int32 → Option Unit) (σ : Sg) (x5 : Int32) : Option Unit :=
  (if ((x5 + 1) : Int32) < 0 ∨ N ≤ ((x5 + 1) : Int32).toNatClampNeg then none else (if ((x5 + 2) : Int32) < 0 ∨ N ≤ ((x5 + 2) : Int32).toNatClampNeg then none else ((f_L_temper σ (xs ((x5 + 1) : Int32).toNatClampNeg) (xs ((x5 + 2) : Int32).toNatClampNeg)).bind (fun r33 => (if ((x5 + 1) : Int32) < 0 ∨ N ≤ ((x5 + 1) : Int32).toNatClampNeg then none else (if ((x5 + 2) : Int32) < 0 ∨ N ≤ ((x5 + 2) : Int32).toNatClampNeg then none else ((f_X4_temper r33.2 (xs ((x5 + 1) : Int32).toNatClampNeg) (xs ((x5 + 2) : Int32).toNatClampNeg)).bind (fun r34 => (rec r34.2 (x5 + 5))))))))))
set_option maxRecDepth 100000 in
set_option maxHeartbeats 8000000 in
theorem b_law_16 (C0 : Cx p l s m args meth c cL_law 9 RL D cy n0) (hX : va_X b N xs s s.heap) (hbl : b < s.heap.size) (hbn : ¬ n0 ≤ b) (rec : Sg → Int32 → Option Unit) (t : Nat) (ht : t < 513) (hrec : ∀ (σ : Sg) (x5 : Int32) (H : Heap) (locs : List Loc) (ls : Array Slot), LW D cy n0 s y0 y7 y12 y13 σ H locs → lv_has ls 9 [(0, .ref b), (1, .ref y0), (2, .ref y7), (3, .ref y12), (4, .ref y13), (5, .int x5)] → Sm Qf (rec σ x5) p l e room_1 s m args below meth c H locs (34 + 9 * (t + 1)) (1366 + 230 * (t + 1)) (F0 m 28 ls [])) (σ : Sg) (x5 : Int32) (H : Heap) (locs : List Loc) (ls : Array Slot) (hw : LW D cy n0 s y0 y7 y12 y13 σ H locs) (hl : lv_has ls 9 [(0, .ref b), (1, .ref y0), (2, .ref y7), (3, .ref y12), (4, .ref y13), (5, .int x5)]) : Sm Qf (f_law_16 N xs rec σ x5) p l e room_1 s m args below meth c H locs (34 + 9 * t) (1366 + 230 * t) (F0 m 786 ls []) := by
  unfold f_law_16
  refine s_aload_n C0 dL_law_786 rfl (lv_at hl 1 rfl) ?_
  refine s_aload_n C0 dL_law_787 rfl (lv_at hl 0 rfl) ?_
  refine s_iload C0 dL_law_788 (lv_at hl 5 rfl) ?_
  refine s_iconst (v := 1) C0 dL_law_790 (by decide) ?_
  refine s_iadd C0 dL_law_791 ?_
  refine l_sld C0 hX hbl hbn hw dL_law_792 ?_
  refine s_aload_n C0 dL_law_793 rfl (lv_at hl 0 rfl) ?_
  refine s_iload C0 dL_law_794 (lv_at hl 5 rfl) ?_
  refine s_iconst (v := 2) C0 dL_law_796 (by decide) ?_
  refine s_iadd C0 dL_law_797 ?_
  refine l_sld C0 hX hbl hbn hw dL_law_798 ?_
  refine s_aload_n C0 dL_law_799 rfl (lv_at hl 3 rfl) ?_
  refine l_H (As := (fun ad => [.ref (ad 0 0), .int (xs ((x5 + 1) : Int32).toNatClampNeg), .int (xs ((x5 + 2) : Int32).toNatClampNeg), .ref (ad 12 0)])) (rest := []) C0 hw (fun ad nT nO => c_L_temper C0.2.2.2.2.2.2 _ (xs ((x5 + 1) : Int32).toNatClampNeg) (xs ((x5 + 2) : Int32).toNatClampNeg)) (qc135 C0.1.2.2.2.2 ⟨Nat.le_of_ble_eq_true rfl, Nat.le_of_ble_eq_true rfl⟩) (fun _ => rfl) hl.1 (fun ad e0 e12 e13 => by simp [e0, e12]) (lv_room (Nat.le_of_ble_eq_true rfl)) dL_law_800 ⟨by show _ ≤ 603072; omega, by show _ ≤ 7231594; omega⟩ (fun r33 H locs _ hw => ?_)
  refine s_istore (lv' := [(6, .int r33.1), (0, .ref b), (1, .ref y0), (2, .ref y7), (3, .ref y12), (4, .ref y13), (5, .int x5)]) C0 dL_law_803 hl (by decide) rfl (fun ls hl => ?_)
  refine s_aload_n C0 dL_law_805 rfl (lv_at hl 3 rfl) ?_
  refine s_aload_n C0 dL_law_806 rfl (lv_at hl 1 rfl) ?_
  refine s_iload C0 dL_law_807 (lv_at hl 6 rfl) ?_
  refine s_iconst (v := 1) C0 dL_law_809 (by decide) ?_
  refine s_iadd C0 dL_law_810 ?_
  refine l_sld C0 hX hbl hbn hw dL_law_811 ?_
  refine s_aload_n C0 dL_law_812 rfl (lv_at hl 1 rfl) ?_
  refine s_iload C0 dL_law_813 (lv_at hl 6 rfl) ?_
  refine s_iconst (v := 2) C0 dL_law_815 (by decide) ?_
  refine s_iadd C0 dL_law_816 ?_
  refine l_sld C0 hX hbl hbn hw dL_law_817 ?_
  refine l_V (vv := vI) (As := [.int (xs ((x5 + 1) : Int32).toNatClampNeg), .int (xs ((x5 + 2) : Int32).toNatClampNeg)]) (rest := []) (kd := 7) (ci := 4) C0 hw (Or.inr ⟨rfl, rfl, rfl⟩) rfl (fun ad nT nO => c_X4_temper C0.2.2.2.2.2.2 _ (xs ((x5 + 1) : Int32).toNatClampNeg) (xs ((x5 + 2) : Int32).toNatClampNeg)) (qc136 C0.1.2.2.2.2 ⟨Nat.le_of_ble_eq_true rfl, Nat.le_of_ble_eq_true rfl⟩) rfl hl.1 rfl (lv_room (Nat.le_of_ble_eq_true rfl)) dL_law_818 ⟨by show _ ≤ 603072; omega, by show _ ≤ 7231594; omega⟩ (fun r34 H locs _ hw => ?_)
  refine s_istore (lv' := [(7, .int r34.1), (6, .int r33.1), (0, .ref b), (1, .ref y0), (2, .ref y7), (3, .ref y12), (4, .ref y13), (5, .int x5)]) C0 dL_law_821 hl (by decide) rfl (fun ls hl => ?_)
  refine s_goto (tgt := 1381) C0 dL_law_823 (by decide) ?_
  refine s_iinc (k := 7) (v := (x5 + 5)) (lv' := [(5, .int (x5 + 5)), (7, .int r34.1), (6, .int r33.1), (0, .ref b), (1, .ref y0), (2, .ref y7), (3, .ref y12), (4, .ref y13)]) C0 dL_law_1381 hl rfl rfl (by decide) rfl (fun ls hl => ?_)
  refine s_goto (tgt := 28) C0 dL_law_1384 (by decide) ?_
  refine s_widen (k := 34 + 9 * (t + 1)) (n := 1366 + 230 * (t + 1)) (by omega) (by omega) ?_
  exact hrec r34.2 (x5 + 5) _ _ _ hw (lv_sub hl [3, 4, 5, 6, 7, 0] rfl)
def f_law_17 (N : Nat) (xs : Nat → Int32) (rec : Sg → Int32 → Option Unit) (σ : Sg) (x5 : Int32) : Option Unit :=
  (if ((x5 + 1) : Int32) < 0 ∨ N ≤ ((x5 + 1) : Int32).toNatClampNeg then none else (if ((x5 + 2) : Int32) < 0 ∨ N ≤ ((x5 + 2) : Int32).toNatClampNeg then none else ((f_L_straighten σ (xs ((x5 + 1) : Int32).toNatClampNeg) (xs ((x5 + 2) : Int32).toNatClampNeg)).bind (fun r35 => (if ((x5 + 1) : Int32) < 0 ∨ N ≤ ((x5 + 1) : Int32).toNatClampNeg then none else (if ((x5 + 2) : Int32) < 0 ∨ N ≤ ((x5 + 2) : Int32).toNatClampNeg then none else ((f_X4_straighten r35.2 (xs ((x5 + 1) : Int32).toNatClampNeg) (xs ((x5 + 2) : Int32).toNatClampNeg)).bind (fun r36 => (rec r36.2 (x5 + 5))))))))))
set_option maxRecDepth 100000 in
set_option maxHeartbeats 8000000 in
theorem b_law_17 (C0 : Cx p l s m args meth c cL_law 9 RL D cy n0) (hX : va_X b N xs s s.heap) (hbl : b < s.heap.size) (hbn : ¬ n0 ≤ b) (rec : Sg → Int32 → Option Unit) (t : Nat) (ht : t < 513) (hrec : ∀ (σ : Sg) (x5 : Int32) (H : Heap) (locs : List Loc) (ls : Array Slot), LW D cy n0 s y0 y7 y12 y13 σ H locs → lv_has ls 9 [(0, .ref b), (1, .ref y0), (2, .ref y7), (3, .ref y12), (4, .ref y13), (5, .int x5)] → Sm Qf (rec σ x5) p l e room_1 s m args below meth c H locs (34 + 9 * (t + 1)) (1366 + 230 * (t + 1)) (F0 m 28 ls [])) (σ : Sg) (x5 : Int32) (H : Heap) (locs : List Loc) (ls : Array Slot) (hw : LW D cy n0 s y0 y7 y12 y13 σ H locs) (hl : lv_has ls 9 [(0, .ref b), (1, .ref y0), (2, .ref y7), (3, .ref y12), (4, .ref y13), (5, .int x5)]) : Sm Qf (f_law_17 N xs rec σ x5) p l e room_1 s m args below meth c H locs (34 + 9 * t) (1366 + 230 * t) (F0 m 826 ls []) := by
  unfold f_law_17
  refine s_aload_n C0 dL_law_826 rfl (lv_at hl 1 rfl) ?_
  refine s_aload_n C0 dL_law_827 rfl (lv_at hl 0 rfl) ?_
  refine s_iload C0 dL_law_828 (lv_at hl 5 rfl) ?_
  refine s_iconst (v := 1) C0 dL_law_830 (by decide) ?_
  refine s_iadd C0 dL_law_831 ?_
  refine l_sld C0 hX hbl hbn hw dL_law_832 ?_
  refine s_aload_n C0 dL_law_833 rfl (lv_at hl 0 rfl) ?_
  refine s_iload C0 dL_law_834 (lv_at hl 5 rfl) ?_
  refine s_iconst (v := 2) C0 dL_law_836 (by decide) ?_
  refine s_iadd C0 dL_law_837 ?_
  refine l_sld C0 hX hbl hbn hw dL_law_838 ?_
  refine s_aload_n C0 dL_law_839 rfl (lv_at hl 3 rfl) ?_
  refine l_H (As := (fun ad => [.ref (ad 0 0), .int (xs ((x5 + 1) : Int32).toNatClampNeg), .int (xs ((x5 + 2) : Int32).toNatClampNeg), .ref (ad 12 0)])) (rest := []) C0 hw (fun ad nT nO => c_L_straighten C0.2.2.2.2.2.2 _ (xs ((x5 + 1) : Int32).toNatClampNeg) (xs ((x5 + 2) : Int32).toNatClampNeg)) (qc137 C0.1.2.2.2.2 ⟨Nat.le_of_ble_eq_true rfl, Nat.le_of_ble_eq_true rfl⟩) (fun _ => rfl) hl.1 (fun ad e0 e12 e13 => by simp [e0, e12]) (lv_room (Nat.le_of_ble_eq_true rfl)) dL_law_840 ⟨by show _ ≤ 603072; omega, by show _ ≤ 7231594; omega⟩ (fun r35 H locs _ hw => ?_)
  refine s_istore (lv' := [(6, .int r35.1), (0, .ref b), (1, .ref y0), (2, .ref y7), (3, .ref y12), (4, .ref y13), (5, .int x5)]) C0 dL_law_843 hl (by decide) rfl (fun ls hl => ?_)
  refine s_aload_n C0 dL_law_845 rfl (lv_at hl 3 rfl) ?_
  refine s_aload_n C0 dL_law_846 rfl (lv_at hl 1 rfl) ?_
  refine s_iload C0 dL_law_847 (lv_at hl 6 rfl) ?_
  refine s_iconst (v := 1) C0 dL_law_849 (by decide) ?_
  refine s_iadd C0 dL_law_850 ?_
  refine l_sld C0 hX hbl hbn hw dL_law_851 ?_
  refine s_aload_n C0 dL_law_852 rfl (lv_at hl 1 rfl) ?_
  refine s_iload C0 dL_law_853 (lv_at hl 6 rfl) ?_
  refine s_iconst (v := 2) C0 dL_law_855 (by decide) ?_
  refine s_iadd C0 dL_law_856 ?_
  refine l_sld C0 hX hbl hbn hw dL_law_857 ?_
  refine l_V (vv := vI) (As := [.int (xs ((x5 + 1) : Int32).toNatClampNeg), .int (xs ((x5 + 2) : Int32).toNatClampNeg)]) (rest := []) (kd := 7) (ci := 4) C0 hw (Or.inr ⟨rfl, rfl, rfl⟩) rfl (fun ad nT nO => c_X4_straighten C0.2.2.2.2.2.2 _ (xs ((x5 + 1) : Int32).toNatClampNeg) (xs ((x5 + 2) : Int32).toNatClampNeg)) (qc138 C0.1.2.2.2.2 ⟨Nat.le_of_ble_eq_true rfl, Nat.le_of_ble_eq_true rfl⟩) rfl hl.1 rfl (lv_room (Nat.le_of_ble_eq_true rfl)) dL_law_858 ⟨by show _ ≤ 603072; omega, by show _ ≤ 7231594; omega⟩ (fun r36 H locs _ hw => ?_)
  refine s_istore (lv' := [(7, .int r36.1), (6, .int r35.1), (0, .ref b), (1, .ref y0), (2, .ref y7), (3, .ref y12), (4, .ref y13), (5, .int x5)]) C0 dL_law_861 hl (by decide) rfl (fun ls hl => ?_)
  refine s_goto (tgt := 1381) C0 dL_law_863 (by decide) ?_
  refine s_iinc (k := 7) (v := (x5 + 5)) (lv' := [(5, .int (x5 + 5)), (7, .int r36.1), (6, .int r35.1), (0, .ref b), (1, .ref y0), (2, .ref y7), (3, .ref y12), (4, .ref y13)]) C0 dL_law_1381 hl rfl rfl (by decide) rfl (fun ls hl => ?_)
  refine s_goto (tgt := 28) C0 dL_law_1384 (by decide) ?_
  refine s_widen (k := 34 + 9 * (t + 1)) (n := 1366 + 230 * (t + 1)) (by omega) (by omega) ?_
  exact hrec r36.2 (x5 + 5) _ _ _ hw (lv_sub hl [3, 4, 5, 6, 7, 0] rfl)
def f_law_18 (N : Nat) (xs : Nat → Int32) (rec : Sg → Int32 → Option Unit) (σ : Sg) (x5 : Int32) : Option Unit :=
  (if ((x5 + 1) : Int32) < 0 ∨ N ≤ ((x5 + 1) : Int32).toNatClampNeg then none else ((f_L_seed σ (xs ((x5 + 1) : Int32).toNatClampNeg)).bind (fun r37 => (if ((x5 + 1) : Int32) < 0 ∨ N ≤ ((x5 + 1) : Int32).toNatClampNeg then none else ((f_X4_seed r37.2 (xs ((x5 + 1) : Int32).toNatClampNeg)).bind (fun r38 => (rec r38.2 (x5 + 5))))))))
set_option maxRecDepth 100000 in
set_option maxHeartbeats 8000000 in
theorem b_law_18 (C0 : Cx p l s m args meth c cL_law 9 RL D cy n0) (hX : va_X b N xs s s.heap) (hbl : b < s.heap.size) (hbn : ¬ n0 ≤ b) (rec : Sg → Int32 → Option Unit) (t : Nat) (ht : t < 513) (hrec : ∀ (σ : Sg) (x5 : Int32) (H : Heap) (locs : List Loc) (ls : Array Slot), LW D cy n0 s y0 y7 y12 y13 σ H locs → lv_has ls 9 [(0, .ref b), (1, .ref y0), (2, .ref y7), (3, .ref y12), (4, .ref y13), (5, .int x5)] → Sm Qf (rec σ x5) p l e room_1 s m args below meth c H locs (34 + 9 * (t + 1)) (1366 + 230 * (t + 1)) (F0 m 28 ls [])) (σ : Sg) (x5 : Int32) (H : Heap) (locs : List Loc) (ls : Array Slot) (hw : LW D cy n0 s y0 y7 y12 y13 σ H locs) (hl : lv_has ls 9 [(0, .ref b), (1, .ref y0), (2, .ref y7), (3, .ref y12), (4, .ref y13), (5, .int x5)]) : Sm Qf (f_law_18 N xs rec σ x5) p l e room_1 s m args below meth c H locs (34 + 9 * t) (1366 + 230 * t) (F0 m 866 ls []) := by
  unfold f_law_18
  refine s_aload_n C0 dL_law_866 rfl (lv_at hl 1 rfl) ?_
  refine s_aload_n C0 dL_law_867 rfl (lv_at hl 0 rfl) ?_
  refine s_iload C0 dL_law_868 (lv_at hl 5 rfl) ?_
  refine s_iconst (v := 1) C0 dL_law_870 (by decide) ?_
  refine s_iadd C0 dL_law_871 ?_
  refine l_sld C0 hX hbl hbn hw dL_law_872 ?_
  refine s_aload_n C0 dL_law_873 rfl (lv_at hl 3 rfl) ?_
  refine l_H (As := (fun ad => [.ref (ad 0 0), .int (xs ((x5 + 1) : Int32).toNatClampNeg), .ref (ad 12 0)])) (rest := []) C0 hw (fun ad nT nO => c_L_seed C0.2.2.2.2.2.2 _ (xs ((x5 + 1) : Int32).toNatClampNeg)) (qc139 C0.1.2.2.2.2 ⟨Nat.le_of_ble_eq_true rfl, Nat.le_of_ble_eq_true rfl⟩) (fun _ => rfl) hl.1 (fun ad e0 e12 e13 => by simp [e0, e12]) (lv_room (Nat.le_of_ble_eq_true rfl)) dL_law_874 ⟨by show _ ≤ 603072; omega, by show _ ≤ 7231594; omega⟩ (fun r37 H locs _ hw => ?_)
  refine s_istore (lv' := [(6, .int r37.1), (0, .ref b), (1, .ref y0), (2, .ref y7), (3, .ref y12), (4, .ref y13), (5, .int x5)]) C0 dL_law_877 hl (by decide) rfl (fun ls hl => ?_)
  refine s_aload_n C0 dL_law_879 rfl (lv_at hl 3 rfl) ?_
  refine s_aload_n C0 dL_law_880 rfl (lv_at hl 1 rfl) ?_
  refine s_iload C0 dL_law_881 (lv_at hl 6 rfl) ?_
  refine s_iconst (v := 1) C0 dL_law_883 (by decide) ?_
  refine s_iadd C0 dL_law_884 ?_
  refine l_sld C0 hX hbl hbn hw dL_law_885 ?_
  refine l_V (vv := vI) (As := [.int (xs ((x5 + 1) : Int32).toNatClampNeg)]) (rest := []) (kd := 7) (ci := 4) C0 hw (Or.inr ⟨rfl, rfl, rfl⟩) rfl (fun ad nT nO => c_X4_seed C0.2.2.2.2.2.2 _ (xs ((x5 + 1) : Int32).toNatClampNeg)) (qc140 C0.1.2.2.2.2 ⟨Nat.le_of_ble_eq_true rfl, Nat.le_of_ble_eq_true rfl⟩) rfl hl.1 rfl (lv_room (Nat.le_of_ble_eq_true rfl)) dL_law_886 ⟨by show _ ≤ 603072; omega, by show _ ≤ 7231594; omega⟩ (fun r38 H locs _ hw => ?_)
  refine s_istore (lv' := [(7, .int r38.1), (6, .int r37.1), (0, .ref b), (1, .ref y0), (2, .ref y7), (3, .ref y12), (4, .ref y13), (5, .int x5)]) C0 dL_law_889 hl (by decide) rfl (fun ls hl => ?_)
  refine s_goto (tgt := 1381) C0 dL_law_891 (by decide) ?_
  refine s_iinc (k := 7) (v := (x5 + 5)) (lv' := [(5, .int (x5 + 5)), (7, .int r38.1), (6, .int r37.1), (0, .ref b), (1, .ref y0), (2, .ref y7), (3, .ref y12), (4, .ref y13)]) C0 dL_law_1381 hl rfl rfl (by decide) rfl (fun ls hl => ?_)
  refine s_goto (tgt := 28) C0 dL_law_1384 (by decide) ?_
  refine s_widen (k := 34 + 9 * (t + 1)) (n := 1366 + 230 * (t + 1)) (by omega) (by omega) ?_
  exact hrec r38.2 (x5 + 5) _ _ _ hw (lv_sub hl [3, 4, 5, 6, 7, 0] rfl)
def f_law_19 (N : Nat) (xs : Nat → Int32) (rec : Sg → Int32 → Option Unit) (σ : Sg) (x5 : Int32) : Option Unit :=
  (if ((x5 + 1) : Int32) < 0 ∨ N ≤ ((x5 + 1) : Int32).toNatClampNeg then none else (if ((x5 + 2) : Int32) < 0 ∨ N ≤ ((x5 + 2) : Int32).toNatClampNeg then none else (if ((x5 + 3) : Int32) < 0 ∨ N ≤ ((x5 + 3) : Int32).toNatClampNeg then none else ((f_L_strokes σ (xs ((x5 + 1) : Int32).toNatClampNeg) (xs ((x5 + 2) : Int32).toNatClampNeg) (xs ((x5 + 3) : Int32).toNatClampNeg)).bind (fun r39 => (if ((x5 + 1) : Int32) < 0 ∨ N ≤ ((x5 + 1) : Int32).toNatClampNeg then none else (if ((x5 + 2) : Int32) < 0 ∨ N ≤ ((x5 + 2) : Int32).toNatClampNeg then none else (if ((x5 + 3) : Int32) < 0 ∨ N ≤ ((x5 + 3) : Int32).toNatClampNeg then none else ((f_X4_strokes r39.2 (xs ((x5 + 1) : Int32).toNatClampNeg) (xs ((x5 + 2) : Int32).toNatClampNeg) (xs ((x5 + 3) : Int32).toNatClampNeg)).bind (fun r40 => (rec r40.2 (x5 + 5))))))))))))
set_option maxRecDepth 100000 in
set_option maxHeartbeats 8000000 in
theorem b_law_19 (C0 : Cx p l s m args meth c cL_law 9 RL D cy n0) (hX : va_X b N xs s s.heap) (hbl : b < s.heap.size) (hbn : ¬ n0 ≤ b) (rec : Sg → Int32 → Option Unit) (t : Nat) (ht : t < 513) (hrec : ∀ (σ : Sg) (x5 : Int32) (H : Heap) (locs : List Loc) (ls : Array Slot), LW D cy n0 s y0 y7 y12 y13 σ H locs → lv_has ls 9 [(0, .ref b), (1, .ref y0), (2, .ref y7), (3, .ref y12), (4, .ref y13), (5, .int x5)] → Sm Qf (rec σ x5) p l e room_1 s m args below meth c H locs (34 + 9 * (t + 1)) (1366 + 230 * (t + 1)) (F0 m 28 ls [])) (σ : Sg) (x5 : Int32) (H : Heap) (locs : List Loc) (ls : Array Slot) (hw : LW D cy n0 s y0 y7 y12 y13 σ H locs) (hl : lv_has ls 9 [(0, .ref b), (1, .ref y0), (2, .ref y7), (3, .ref y12), (4, .ref y13), (5, .int x5)]) : Sm Qf (f_law_19 N xs rec σ x5) p l e room_1 s m args below meth c H locs (34 + 9 * t) (1366 + 230 * t) (F0 m 894 ls []) := by
  unfold f_law_19
  refine s_aload_n C0 dL_law_894 rfl (lv_at hl 1 rfl) ?_
  refine s_aload_n C0 dL_law_895 rfl (lv_at hl 0 rfl) ?_
  refine s_iload C0 dL_law_896 (lv_at hl 5 rfl) ?_
  refine s_iconst (v := 1) C0 dL_law_898 (by decide) ?_
  refine s_iadd C0 dL_law_899 ?_
  refine l_sld C0 hX hbl hbn hw dL_law_900 ?_
  refine s_aload_n C0 dL_law_901 rfl (lv_at hl 0 rfl) ?_
  refine s_iload C0 dL_law_902 (lv_at hl 5 rfl) ?_
  refine s_iconst (v := 2) C0 dL_law_904 (by decide) ?_
  refine s_iadd C0 dL_law_905 ?_
  refine l_sld C0 hX hbl hbn hw dL_law_906 ?_
  refine s_aload_n C0 dL_law_907 rfl (lv_at hl 0 rfl) ?_
  refine s_iload C0 dL_law_908 (lv_at hl 5 rfl) ?_
  refine s_iconst (v := 3) C0 dL_law_910 (by decide) ?_
  refine s_iadd C0 dL_law_911 ?_
  refine l_sld C0 hX hbl hbn hw dL_law_912 ?_
  refine s_aload_n C0 dL_law_913 rfl (lv_at hl 3 rfl) ?_
  refine l_H (As := (fun ad => [.ref (ad 0 0), .int (xs ((x5 + 1) : Int32).toNatClampNeg), .int (xs ((x5 + 2) : Int32).toNatClampNeg), .int (xs ((x5 + 3) : Int32).toNatClampNeg), .ref (ad 12 0)])) (rest := []) C0 hw (fun ad nT nO => c_L_strokes C0.2.2.2.2.2.2 _ (xs ((x5 + 1) : Int32).toNatClampNeg) (xs ((x5 + 2) : Int32).toNatClampNeg) (xs ((x5 + 3) : Int32).toNatClampNeg)) (qc141 C0.1.2.2.2.2 ⟨Nat.le_of_ble_eq_true rfl, Nat.le_of_ble_eq_true rfl⟩) (fun _ => rfl) hl.1 (fun ad e0 e12 e13 => by simp [e0, e12]) (lv_room (Nat.le_of_ble_eq_true rfl)) dL_law_914 ⟨by show _ ≤ 603072; omega, by show _ ≤ 7231594; omega⟩ (fun r39 H locs _ hw => ?_)
  refine s_istore (lv' := [(6, .int r39.1), (0, .ref b), (1, .ref y0), (2, .ref y7), (3, .ref y12), (4, .ref y13), (5, .int x5)]) C0 dL_law_917 hl (by decide) rfl (fun ls hl => ?_)
  refine s_aload_n C0 dL_law_919 rfl (lv_at hl 3 rfl) ?_
  refine s_aload_n C0 dL_law_920 rfl (lv_at hl 1 rfl) ?_
  refine s_iload C0 dL_law_921 (lv_at hl 6 rfl) ?_
  refine s_iconst (v := 1) C0 dL_law_923 (by decide) ?_
  refine s_iadd C0 dL_law_924 ?_
  refine l_sld C0 hX hbl hbn hw dL_law_925 ?_
  refine s_aload_n C0 dL_law_926 rfl (lv_at hl 1 rfl) ?_
  refine s_iload C0 dL_law_927 (lv_at hl 6 rfl) ?_
  refine s_iconst (v := 2) C0 dL_law_929 (by decide) ?_
  refine s_iadd C0 dL_law_930 ?_
  refine l_sld C0 hX hbl hbn hw dL_law_931 ?_
  refine s_aload_n C0 dL_law_932 rfl (lv_at hl 1 rfl) ?_
  refine s_iload C0 dL_law_933 (lv_at hl 6 rfl) ?_
  refine s_iconst (v := 3) C0 dL_law_935 (by decide) ?_
  refine s_iadd C0 dL_law_936 ?_
  refine l_sld C0 hX hbl hbn hw dL_law_937 ?_
  refine l_V (vv := vI) (As := [.int (xs ((x5 + 1) : Int32).toNatClampNeg), .int (xs ((x5 + 2) : Int32).toNatClampNeg), .int (xs ((x5 + 3) : Int32).toNatClampNeg)]) (rest := []) (kd := 7) (ci := 4) C0 hw (Or.inr ⟨rfl, rfl, rfl⟩) rfl (fun ad nT nO => c_X4_strokes C0.2.2.2.2.2.2 _ (xs ((x5 + 1) : Int32).toNatClampNeg) (xs ((x5 + 2) : Int32).toNatClampNeg) (xs ((x5 + 3) : Int32).toNatClampNeg)) (qc142 C0.1.2.2.2.2 ⟨Nat.le_of_ble_eq_true rfl, Nat.le_of_ble_eq_true rfl⟩) rfl hl.1 rfl (lv_room (Nat.le_of_ble_eq_true rfl)) dL_law_938 ⟨by show _ ≤ 603072; omega, by show _ ≤ 7231594; omega⟩ (fun r40 H locs _ hw => ?_)
  refine s_istore (lv' := [(7, .int r40.1), (6, .int r39.1), (0, .ref b), (1, .ref y0), (2, .ref y7), (3, .ref y12), (4, .ref y13), (5, .int x5)]) C0 dL_law_941 hl (by decide) rfl (fun ls hl => ?_)
  refine s_goto (tgt := 1381) C0 dL_law_943 (by decide) ?_
  refine s_iinc (k := 7) (v := (x5 + 5)) (lv' := [(5, .int (x5 + 5)), (7, .int r40.1), (6, .int r39.1), (0, .ref b), (1, .ref y0), (2, .ref y7), (3, .ref y12), (4, .ref y13)]) C0 dL_law_1381 hl rfl rfl (by decide) rfl (fun ls hl => ?_)
  refine s_goto (tgt := 28) C0 dL_law_1384 (by decide) ?_
  refine s_widen (k := 34 + 9 * (t + 1)) (n := 1366 + 230 * (t + 1)) (by omega) (by omega) ?_
  exact hrec r40.2 (x5 + 5) _ _ _ hw (lv_sub hl [3, 4, 5, 6, 7, 0] rfl)
def f_law_20 (N : Nat) (xs : Nat → Int32) (rec : Sg → Int32 → Option Unit) (σ : Sg) (x5 : Int32) : Option Unit :=
  (if ((x5 + 1) : Int32) < 0 ∨ N ≤ ((x5 + 1) : Int32).toNatClampNeg then none else ((f_L_chips σ (xs ((x5 + 1) : Int32).toNatClampNeg)).bind (fun r41 => (if ((x5 + 1) : Int32) < 0 ∨ N ≤ ((x5 + 1) : Int32).toNatClampNeg then none else ((f_X4_chips r41.2 (xs ((x5 + 1) : Int32).toNatClampNeg)).bind (fun r42 => (rec r42.2 (x5 + 5))))))))
set_option maxRecDepth 100000 in
set_option maxHeartbeats 8000000 in
theorem b_law_20 (C0 : Cx p l s m args meth c cL_law 9 RL D cy n0) (hX : va_X b N xs s s.heap) (hbl : b < s.heap.size) (hbn : ¬ n0 ≤ b) (rec : Sg → Int32 → Option Unit) (t : Nat) (ht : t < 513) (hrec : ∀ (σ : Sg) (x5 : Int32) (H : Heap) (locs : List Loc) (ls : Array Slot), LW D cy n0 s y0 y7 y12 y13 σ H locs → lv_has ls 9 [(0, .ref b), (1, .ref y0), (2, .ref y7), (3, .ref y12), (4, .ref y13), (5, .int x5)] → Sm Qf (rec σ x5) p l e room_1 s m args below meth c H locs (34 + 9 * (t + 1)) (1366 + 230 * (t + 1)) (F0 m 28 ls [])) (σ : Sg) (x5 : Int32) (H : Heap) (locs : List Loc) (ls : Array Slot) (hw : LW D cy n0 s y0 y7 y12 y13 σ H locs) (hl : lv_has ls 9 [(0, .ref b), (1, .ref y0), (2, .ref y7), (3, .ref y12), (4, .ref y13), (5, .int x5)]) : Sm Qf (f_law_20 N xs rec σ x5) p l e room_1 s m args below meth c H locs (34 + 9 * t) (1366 + 230 * t) (F0 m 946 ls []) := by
  unfold f_law_20
  refine s_aload_n C0 dL_law_946 rfl (lv_at hl 1 rfl) ?_
  refine s_aload_n C0 dL_law_947 rfl (lv_at hl 0 rfl) ?_
  refine s_iload C0 dL_law_948 (lv_at hl 5 rfl) ?_
  refine s_iconst (v := 1) C0 dL_law_950 (by decide) ?_
  refine s_iadd C0 dL_law_951 ?_
  refine l_sld C0 hX hbl hbn hw dL_law_952 ?_
  refine s_aload_n C0 dL_law_953 rfl (lv_at hl 3 rfl) ?_
  refine l_H (As := (fun ad => [.ref (ad 0 0), .int (xs ((x5 + 1) : Int32).toNatClampNeg), .ref (ad 12 0)])) (rest := []) C0 hw (fun ad nT nO => c_L_chips C0.2.2.2.2.2.2 _ (xs ((x5 + 1) : Int32).toNatClampNeg)) (qc143 C0.1.2.2.2.2 ⟨Nat.le_of_ble_eq_true rfl, Nat.le_of_ble_eq_true rfl⟩) (fun _ => rfl) hl.1 (fun ad e0 e12 e13 => by simp [e0, e12]) (lv_room (Nat.le_of_ble_eq_true rfl)) dL_law_954 ⟨by show _ ≤ 603072; omega, by show _ ≤ 7231594; omega⟩ (fun r41 H locs _ hw => ?_)
  refine s_istore (lv' := [(6, .int r41.1), (0, .ref b), (1, .ref y0), (2, .ref y7), (3, .ref y12), (4, .ref y13), (5, .int x5)]) C0 dL_law_957 hl (by decide) rfl (fun ls hl => ?_)
  refine s_aload_n C0 dL_law_959 rfl (lv_at hl 3 rfl) ?_
  refine s_aload_n C0 dL_law_960 rfl (lv_at hl 1 rfl) ?_
  refine s_iload C0 dL_law_961 (lv_at hl 6 rfl) ?_
  refine s_iconst (v := 1) C0 dL_law_963 (by decide) ?_
  refine s_iadd C0 dL_law_964 ?_
  refine l_sld C0 hX hbl hbn hw dL_law_965 ?_
  refine l_V (vv := vI) (As := [.int (xs ((x5 + 1) : Int32).toNatClampNeg)]) (rest := []) (kd := 7) (ci := 4) C0 hw (Or.inr ⟨rfl, rfl, rfl⟩) rfl (fun ad nT nO => c_X4_chips C0.2.2.2.2.2.2 _ (xs ((x5 + 1) : Int32).toNatClampNeg)) (qc144 C0.1.2.2.2.2 ⟨Nat.le_of_ble_eq_true rfl, Nat.le_of_ble_eq_true rfl⟩) rfl hl.1 rfl (lv_room (Nat.le_of_ble_eq_true rfl)) dL_law_966 ⟨by show _ ≤ 603072; omega, by show _ ≤ 7231594; omega⟩ (fun r42 H locs _ hw => ?_)
  refine s_istore (lv' := [(7, .int r42.1), (6, .int r41.1), (0, .ref b), (1, .ref y0), (2, .ref y7), (3, .ref y12), (4, .ref y13), (5, .int x5)]) C0 dL_law_969 hl (by decide) rfl (fun ls hl => ?_)
  refine s_goto (tgt := 1381) C0 dL_law_971 (by decide) ?_
  refine s_iinc (k := 7) (v := (x5 + 5)) (lv' := [(5, .int (x5 + 5)), (7, .int r42.1), (6, .int r41.1), (0, .ref b), (1, .ref y0), (2, .ref y7), (3, .ref y12), (4, .ref y13)]) C0 dL_law_1381 hl rfl rfl (by decide) rfl (fun ls hl => ?_)
  refine s_goto (tgt := 28) C0 dL_law_1384 (by decide) ?_
  refine s_widen (k := 34 + 9 * (t + 1)) (n := 1366 + 230 * (t + 1)) (by omega) (by omega) ?_
  exact hrec r42.2 (x5 + 5) _ _ _ hw (lv_sub hl [3, 4, 5, 6, 7, 0] rfl)
def f_law_21 (N : Nat) (xs : Nat → Int32) (rec : Sg → Int32 → Option Unit) (σ : Sg) (x5 : Int32) : Option Unit :=
  (if ((x5 + 1) : Int32) < 0 ∨ N ≤ ((x5 + 1) : Int32).toNatClampNeg then none else ((f_L_brush σ (xs ((x5 + 1) : Int32).toNatClampNeg)).bind (fun r43 => (if ((x5 + 1) : Int32) < 0 ∨ N ≤ ((x5 + 1) : Int32).toNatClampNeg then none else ((f_X4_brush r43.2 (xs ((x5 + 1) : Int32).toNatClampNeg)).bind (fun r44 => (rec r44.2 (x5 + 5))))))))
set_option maxRecDepth 100000 in
set_option maxHeartbeats 8000000 in
theorem b_law_21 (C0 : Cx p l s m args meth c cL_law 9 RL D cy n0) (hX : va_X b N xs s s.heap) (hbl : b < s.heap.size) (hbn : ¬ n0 ≤ b) (rec : Sg → Int32 → Option Unit) (t : Nat) (ht : t < 513) (hrec : ∀ (σ : Sg) (x5 : Int32) (H : Heap) (locs : List Loc) (ls : Array Slot), LW D cy n0 s y0 y7 y12 y13 σ H locs → lv_has ls 9 [(0, .ref b), (1, .ref y0), (2, .ref y7), (3, .ref y12), (4, .ref y13), (5, .int x5)] → Sm Qf (rec σ x5) p l e room_1 s m args below meth c H locs (34 + 9 * (t + 1)) (1366 + 230 * (t + 1)) (F0 m 28 ls [])) (σ : Sg) (x5 : Int32) (H : Heap) (locs : List Loc) (ls : Array Slot) (hw : LW D cy n0 s y0 y7 y12 y13 σ H locs) (hl : lv_has ls 9 [(0, .ref b), (1, .ref y0), (2, .ref y7), (3, .ref y12), (4, .ref y13), (5, .int x5)]) : Sm Qf (f_law_21 N xs rec σ x5) p l e room_1 s m args below meth c H locs (34 + 9 * t) (1366 + 230 * t) (F0 m 974 ls []) := by
  unfold f_law_21
  refine s_aload_n C0 dL_law_974 rfl (lv_at hl 1 rfl) ?_
  refine s_aload_n C0 dL_law_975 rfl (lv_at hl 0 rfl) ?_
  refine s_iload C0 dL_law_976 (lv_at hl 5 rfl) ?_
  refine s_iconst (v := 1) C0 dL_law_978 (by decide) ?_
  refine s_iadd C0 dL_law_979 ?_
  refine l_sld C0 hX hbl hbn hw dL_law_980 ?_
  refine s_aload_n C0 dL_law_981 rfl (lv_at hl 3 rfl) ?_
  refine l_H (As := (fun ad => [.ref (ad 0 0), .int (xs ((x5 + 1) : Int32).toNatClampNeg), .ref (ad 12 0)])) (rest := []) C0 hw (fun ad nT nO => c_L_brush C0.2.2.2.2.2.2 _ (xs ((x5 + 1) : Int32).toNatClampNeg)) (qc145 C0.1.2.2.2.2 ⟨Nat.le_of_ble_eq_true rfl, Nat.le_of_ble_eq_true rfl⟩) (fun _ => rfl) hl.1 (fun ad e0 e12 e13 => by simp [e0, e12]) (lv_room (Nat.le_of_ble_eq_true rfl)) dL_law_982 ⟨by show _ ≤ 603072; omega, by show _ ≤ 7231594; omega⟩ (fun r43 H locs _ hw => ?_)
  refine s_istore (lv' := [(6, .int r43.1), (0, .ref b), (1, .ref y0), (2, .ref y7), (3, .ref y12), (4, .ref y13), (5, .int x5)]) C0 dL_law_985 hl (by decide) rfl (fun ls hl => ?_)
  refine s_aload_n C0 dL_law_987 rfl (lv_at hl 3 rfl) ?_
  refine s_aload_n C0 dL_law_988 rfl (lv_at hl 1 rfl) ?_
  refine s_iload C0 dL_law_989 (lv_at hl 6 rfl) ?_
  refine s_iconst (v := 1) C0 dL_law_991 (by decide) ?_
  refine s_iadd C0 dL_law_992 ?_
  refine l_sld C0 hX hbl hbn hw dL_law_993 ?_
  refine l_V (vv := vI) (As := [.int (xs ((x5 + 1) : Int32).toNatClampNeg)]) (rest := []) (kd := 7) (ci := 4) C0 hw (Or.inr ⟨rfl, rfl, rfl⟩) rfl (fun ad nT nO => c_X4_brush C0.2.2.2.2.2.2 _ (xs ((x5 + 1) : Int32).toNatClampNeg)) (qc146 C0.1.2.2.2.2 ⟨Nat.le_of_ble_eq_true rfl, Nat.le_of_ble_eq_true rfl⟩) rfl hl.1 rfl (lv_room (Nat.le_of_ble_eq_true rfl)) dL_law_994 ⟨by show _ ≤ 603072; omega, by show _ ≤ 7231594; omega⟩ (fun r44 H locs _ hw => ?_)
  refine s_istore (lv' := [(7, .int r44.1), (6, .int r43.1), (0, .ref b), (1, .ref y0), (2, .ref y7), (3, .ref y12), (4, .ref y13), (5, .int x5)]) C0 dL_law_997 hl (by decide) rfl (fun ls hl => ?_)
  refine s_goto (tgt := 1381) C0 dL_law_999 (by decide) ?_
  refine s_iinc (k := 7) (v := (x5 + 5)) (lv' := [(5, .int (x5 + 5)), (7, .int r44.1), (6, .int r43.1), (0, .ref b), (1, .ref y0), (2, .ref y7), (3, .ref y12), (4, .ref y13)]) C0 dL_law_1381 hl rfl rfl (by decide) rfl (fun ls hl => ?_)
  refine s_goto (tgt := 28) C0 dL_law_1384 (by decide) ?_
  refine s_widen (k := 34 + 9 * (t + 1)) (n := 1366 + 230 * (t + 1)) (by omega) (by omega) ?_
  exact hrec r44.2 (x5 + 5) _ _ _ hw (lv_sub hl [3, 4, 5, 6, 7, 0] rfl)
def f_law_22 (N : Nat) (xs : Nat → Int32) (rec : Sg → Int32 → Option Unit) (σ : Sg) (x5 : Int32) : Option Unit :=
  (if ((x5 + 1) : Int32) < 0 ∨ N ≤ ((x5 + 1) : Int32).toNatClampNeg then none else ((f_L_work σ (xs ((x5 + 1) : Int32).toNatClampNeg)).bind (fun r45 => (if ((x5 + 1) : Int32) < 0 ∨ N ≤ ((x5 + 1) : Int32).toNatClampNeg then none else ((f_X4_work r45.2 (xs ((x5 + 1) : Int32).toNatClampNeg)).bind (fun r46 => (rec r46.2 (x5 + 5))))))))
set_option maxRecDepth 100000 in
set_option maxHeartbeats 8000000 in
theorem b_law_22 (C0 : Cx p l s m args meth c cL_law 9 RL D cy n0) (hX : va_X b N xs s s.heap) (hbl : b < s.heap.size) (hbn : ¬ n0 ≤ b) (rec : Sg → Int32 → Option Unit) (t : Nat) (ht : t < 513) (hrec : ∀ (σ : Sg) (x5 : Int32) (H : Heap) (locs : List Loc) (ls : Array Slot), LW D cy n0 s y0 y7 y12 y13 σ H locs → lv_has ls 9 [(0, .ref b), (1, .ref y0), (2, .ref y7), (3, .ref y12), (4, .ref y13), (5, .int x5)] → Sm Qf (rec σ x5) p l e room_1 s m args below meth c H locs (34 + 9 * (t + 1)) (1366 + 230 * (t + 1)) (F0 m 28 ls [])) (σ : Sg) (x5 : Int32) (H : Heap) (locs : List Loc) (ls : Array Slot) (hw : LW D cy n0 s y0 y7 y12 y13 σ H locs) (hl : lv_has ls 9 [(0, .ref b), (1, .ref y0), (2, .ref y7), (3, .ref y12), (4, .ref y13), (5, .int x5)]) : Sm Qf (f_law_22 N xs rec σ x5) p l e room_1 s m args below meth c H locs (34 + 9 * t) (1366 + 230 * t) (F0 m 1002 ls []) := by
  unfold f_law_22
  refine s_aload_n C0 dL_law_1002 rfl (lv_at hl 1 rfl) ?_
  refine s_aload_n C0 dL_law_1003 rfl (lv_at hl 0 rfl) ?_
  refine s_iload C0 dL_law_1004 (lv_at hl 5 rfl) ?_
  refine s_iconst (v := 1) C0 dL_law_1006 (by decide) ?_
  refine s_iadd C0 dL_law_1007 ?_
  refine l_sld C0 hX hbl hbn hw dL_law_1008 ?_
  refine s_aload_n C0 dL_law_1009 rfl (lv_at hl 3 rfl) ?_
  refine l_H (As := (fun ad => [.ref (ad 0 0), .int (xs ((x5 + 1) : Int32).toNatClampNeg), .ref (ad 12 0)])) (rest := []) C0 hw (fun ad nT nO => c_L_work C0.2.2.2.2.2.2 _ (xs ((x5 + 1) : Int32).toNatClampNeg)) (qc147 C0.1.2.2.2.2 ⟨Nat.le_of_ble_eq_true rfl, Nat.le_of_ble_eq_true rfl⟩) (fun _ => rfl) hl.1 (fun ad e0 e12 e13 => by simp [e0, e12]) (lv_room (Nat.le_of_ble_eq_true rfl)) dL_law_1010 ⟨by show _ ≤ 603072; omega, by show _ ≤ 7231594; omega⟩ (fun r45 H locs _ hw => ?_)
  refine s_istore (lv' := [(6, .int r45.1), (0, .ref b), (1, .ref y0), (2, .ref y7), (3, .ref y12), (4, .ref y13), (5, .int x5)]) C0 dL_law_1013 hl (by decide) rfl (fun ls hl => ?_)
  refine s_aload_n C0 dL_law_1015 rfl (lv_at hl 3 rfl) ?_
  refine s_aload_n C0 dL_law_1016 rfl (lv_at hl 1 rfl) ?_
  refine s_iload C0 dL_law_1017 (lv_at hl 6 rfl) ?_
  refine s_iconst (v := 1) C0 dL_law_1019 (by decide) ?_
  refine s_iadd C0 dL_law_1020 ?_
  refine l_sld C0 hX hbl hbn hw dL_law_1021 ?_
  refine l_V (vv := vI) (As := [.int (xs ((x5 + 1) : Int32).toNatClampNeg)]) (rest := []) (kd := 7) (ci := 4) C0 hw (Or.inr ⟨rfl, rfl, rfl⟩) rfl (fun ad nT nO => c_X4_work C0.2.2.2.2.2.2 _ (xs ((x5 + 1) : Int32).toNatClampNeg)) (qc148 C0.1.2.2.2.2 ⟨Nat.le_of_ble_eq_true rfl, Nat.le_of_ble_eq_true rfl⟩) rfl hl.1 rfl (lv_room (Nat.le_of_ble_eq_true rfl)) dL_law_1022 ⟨by show _ ≤ 603072; omega, by show _ ≤ 7231594; omega⟩ (fun r46 H locs _ hw => ?_)
  refine s_istore (lv' := [(7, .int r46.1), (6, .int r45.1), (0, .ref b), (1, .ref y0), (2, .ref y7), (3, .ref y12), (4, .ref y13), (5, .int x5)]) C0 dL_law_1025 hl (by decide) rfl (fun ls hl => ?_)
  refine s_goto (tgt := 1381) C0 dL_law_1027 (by decide) ?_
  refine s_iinc (k := 7) (v := (x5 + 5)) (lv' := [(5, .int (x5 + 5)), (7, .int r46.1), (6, .int r45.1), (0, .ref b), (1, .ref y0), (2, .ref y7), (3, .ref y12), (4, .ref y13)]) C0 dL_law_1381 hl rfl rfl (by decide) rfl (fun ls hl => ?_)
  refine s_goto (tgt := 28) C0 dL_law_1384 (by decide) ?_
  refine s_widen (k := 34 + 9 * (t + 1)) (n := 1366 + 230 * (t + 1)) (by omega) (by omega) ?_
  exact hrec r46.2 (x5 + 5) _ _ _ hw (lv_sub hl [3, 4, 5, 6, 7, 0] rfl)
def f_law_23 (N : Nat) (xs : Nat → Int32) (rec : Sg → Int32 → Option Unit) (σ : Sg) (x5 : Int32) : Option Unit :=
  (if ((x5 + 1) : Int32) < 0 ∨ N ≤ ((x5 + 1) : Int32).toNatClampNeg then none else ((f_L_soften σ (xs ((x5 + 1) : Int32).toNatClampNeg)).bind (fun r47 => (if ((x5 + 1) : Int32) < 0 ∨ N ≤ ((x5 + 1) : Int32).toNatClampNeg then none else ((f_X4_soften r47.2 (xs ((x5 + 1) : Int32).toNatClampNeg)).bind (fun r48 => (rec r48.2 (x5 + 5))))))))
set_option maxRecDepth 100000 in
set_option maxHeartbeats 8000000 in
theorem b_law_23 (C0 : Cx p l s m args meth c cL_law 9 RL D cy n0) (hX : va_X b N xs s s.heap) (hbl : b < s.heap.size) (hbn : ¬ n0 ≤ b) (rec : Sg → Int32 → Option Unit) (t : Nat) (ht : t < 513) (hrec : ∀ (σ : Sg) (x5 : Int32) (H : Heap) (locs : List Loc) (ls : Array Slot), LW D cy n0 s y0 y7 y12 y13 σ H locs → lv_has ls 9 [(0, .ref b), (1, .ref y0), (2, .ref y7), (3, .ref y12), (4, .ref y13), (5, .int x5)] → Sm Qf (rec σ x5) p l e room_1 s m args below meth c H locs (34 + 9 * (t + 1)) (1366 + 230 * (t + 1)) (F0 m 28 ls [])) (σ : Sg) (x5 : Int32) (H : Heap) (locs : List Loc) (ls : Array Slot) (hw : LW D cy n0 s y0 y7 y12 y13 σ H locs) (hl : lv_has ls 9 [(0, .ref b), (1, .ref y0), (2, .ref y7), (3, .ref y12), (4, .ref y13), (5, .int x5)]) : Sm Qf (f_law_23 N xs rec σ x5) p l e room_1 s m args below meth c H locs (34 + 9 * t) (1366 + 230 * t) (F0 m 1030 ls []) := by
  unfold f_law_23
  refine s_aload_n C0 dL_law_1030 rfl (lv_at hl 1 rfl) ?_
  refine s_aload_n C0 dL_law_1031 rfl (lv_at hl 0 rfl) ?_
  refine s_iload C0 dL_law_1032 (lv_at hl 5 rfl) ?_
  refine s_iconst (v := 1) C0 dL_law_1034 (by decide) ?_
  refine s_iadd C0 dL_law_1035 ?_
  refine l_sld C0 hX hbl hbn hw dL_law_1036 ?_
  refine s_aload_n C0 dL_law_1037 rfl (lv_at hl 3 rfl) ?_
  refine l_H (As := (fun ad => [.ref (ad 0 0), .int (xs ((x5 + 1) : Int32).toNatClampNeg), .ref (ad 12 0)])) (rest := []) C0 hw (fun ad nT nO => c_L_soften C0.2.2.2.2.2.2 _ (xs ((x5 + 1) : Int32).toNatClampNeg)) (qc149 C0.1.2.2.2.2 ⟨Nat.le_of_ble_eq_true rfl, Nat.le_of_ble_eq_true rfl⟩) (fun _ => rfl) hl.1 (fun ad e0 e12 e13 => by simp [e0, e12]) (lv_room (Nat.le_of_ble_eq_true rfl)) dL_law_1038 ⟨by show _ ≤ 603072; omega, by show _ ≤ 7231594; omega⟩ (fun r47 H locs _ hw => ?_)
  refine s_istore (lv' := [(6, .int r47.1), (0, .ref b), (1, .ref y0), (2, .ref y7), (3, .ref y12), (4, .ref y13), (5, .int x5)]) C0 dL_law_1041 hl (by decide) rfl (fun ls hl => ?_)
  refine s_aload_n C0 dL_law_1043 rfl (lv_at hl 3 rfl) ?_
  refine s_aload_n C0 dL_law_1044 rfl (lv_at hl 1 rfl) ?_
  refine s_iload C0 dL_law_1045 (lv_at hl 6 rfl) ?_
  refine s_iconst (v := 1) C0 dL_law_1047 (by decide) ?_
  refine s_iadd C0 dL_law_1048 ?_
  refine l_sld C0 hX hbl hbn hw dL_law_1049 ?_
  refine l_V (vv := vI) (As := [.int (xs ((x5 + 1) : Int32).toNatClampNeg)]) (rest := []) (kd := 7) (ci := 4) C0 hw (Or.inr ⟨rfl, rfl, rfl⟩) rfl (fun ad nT nO => c_X4_soften C0.2.2.2.2.2.2 _ (xs ((x5 + 1) : Int32).toNatClampNeg)) (qc150 C0.1.2.2.2.2 ⟨Nat.le_of_ble_eq_true rfl, Nat.le_of_ble_eq_true rfl⟩) rfl hl.1 rfl (lv_room (Nat.le_of_ble_eq_true rfl)) dL_law_1050 ⟨by show _ ≤ 603072; omega, by show _ ≤ 7231594; omega⟩ (fun r48 H locs _ hw => ?_)
  refine s_istore (lv' := [(7, .int r48.1), (6, .int r47.1), (0, .ref b), (1, .ref y0), (2, .ref y7), (3, .ref y12), (4, .ref y13), (5, .int x5)]) C0 dL_law_1053 hl (by decide) rfl (fun ls hl => ?_)
  refine s_goto (tgt := 1381) C0 dL_law_1055 (by decide) ?_
  refine s_iinc (k := 7) (v := (x5 + 5)) (lv' := [(5, .int (x5 + 5)), (7, .int r48.1), (6, .int r47.1), (0, .ref b), (1, .ref y0), (2, .ref y7), (3, .ref y12), (4, .ref y13)]) C0 dL_law_1381 hl rfl rfl (by decide) rfl (fun ls hl => ?_)
  refine s_goto (tgt := 28) C0 dL_law_1384 (by decide) ?_
  refine s_widen (k := 34 + 9 * (t + 1)) (n := 1366 + 230 * (t + 1)) (by omega) (by omega) ?_
  exact hrec r48.2 (x5 + 5) _ _ _ hw (lv_sub hl [3, 4, 5, 6, 7, 0] rfl)
def f_law_24 (N : Nat) (xs : Nat → Int32) (rec : Sg → Int32 → Option Unit) (σ : Sg) (x5 : Int32) : Option Unit :=
  (if ((x5 + 1) : Int32) < 0 ∨ N ≤ ((x5 + 1) : Int32).toNatClampNeg then none else ((f_L_grind σ (xs ((x5 + 1) : Int32).toNatClampNeg)).bind (fun r49 => (if ((x5 + 1) : Int32) < 0 ∨ N ≤ ((x5 + 1) : Int32).toNatClampNeg then none else ((f_X4_grind r49.2 (xs ((x5 + 1) : Int32).toNatClampNeg)).bind (fun r50 => (rec r50.2 (x5 + 5))))))))
set_option maxRecDepth 100000 in
set_option maxHeartbeats 8000000 in
theorem b_law_24 (C0 : Cx p l s m args meth c cL_law 9 RL D cy n0) (hX : va_X b N xs s s.heap) (hbl : b < s.heap.size) (hbn : ¬ n0 ≤ b) (rec : Sg → Int32 → Option Unit) (t : Nat) (ht : t < 513) (hrec : ∀ (σ : Sg) (x5 : Int32) (H : Heap) (locs : List Loc) (ls : Array Slot), LW D cy n0 s y0 y7 y12 y13 σ H locs → lv_has ls 9 [(0, .ref b), (1, .ref y0), (2, .ref y7), (3, .ref y12), (4, .ref y13), (5, .int x5)] → Sm Qf (rec σ x5) p l e room_1 s m args below meth c H locs (34 + 9 * (t + 1)) (1366 + 230 * (t + 1)) (F0 m 28 ls [])) (σ : Sg) (x5 : Int32) (H : Heap) (locs : List Loc) (ls : Array Slot) (hw : LW D cy n0 s y0 y7 y12 y13 σ H locs) (hl : lv_has ls 9 [(0, .ref b), (1, .ref y0), (2, .ref y7), (3, .ref y12), (4, .ref y13), (5, .int x5)]) : Sm Qf (f_law_24 N xs rec σ x5) p l e room_1 s m args below meth c H locs (34 + 9 * t) (1366 + 230 * t) (F0 m 1058 ls []) := by
  unfold f_law_24
  refine s_aload_n C0 dL_law_1058 rfl (lv_at hl 1 rfl) ?_
  refine s_aload_n C0 dL_law_1059 rfl (lv_at hl 0 rfl) ?_
  refine s_iload C0 dL_law_1060 (lv_at hl 5 rfl) ?_
  refine s_iconst (v := 1) C0 dL_law_1062 (by decide) ?_
  refine s_iadd C0 dL_law_1063 ?_
  refine l_sld C0 hX hbl hbn hw dL_law_1064 ?_
  refine s_aload_n C0 dL_law_1065 rfl (lv_at hl 3 rfl) ?_
  refine l_H (As := (fun ad => [.ref (ad 0 0), .int (xs ((x5 + 1) : Int32).toNatClampNeg), .ref (ad 12 0)])) (rest := []) C0 hw (fun ad nT nO => c_L_grind C0.2.2.2.2.2.2 _ (xs ((x5 + 1) : Int32).toNatClampNeg)) (qc151 C0.1.2.2.2.2 ⟨Nat.le_of_ble_eq_true rfl, Nat.le_of_ble_eq_true rfl⟩) (fun _ => rfl) hl.1 (fun ad e0 e12 e13 => by simp [e0, e12]) (lv_room (Nat.le_of_ble_eq_true rfl)) dL_law_1066 ⟨by show _ ≤ 603072; omega, by show _ ≤ 7231594; omega⟩ (fun r49 H locs _ hw => ?_)
  refine s_istore (lv' := [(6, .int r49.1), (0, .ref b), (1, .ref y0), (2, .ref y7), (3, .ref y12), (4, .ref y13), (5, .int x5)]) C0 dL_law_1069 hl (by decide) rfl (fun ls hl => ?_)
  refine s_aload_n C0 dL_law_1071 rfl (lv_at hl 3 rfl) ?_
  refine s_aload_n C0 dL_law_1072 rfl (lv_at hl 1 rfl) ?_
  refine s_iload C0 dL_law_1073 (lv_at hl 6 rfl) ?_
  refine s_iconst (v := 1) C0 dL_law_1075 (by decide) ?_
  refine s_iadd C0 dL_law_1076 ?_
  refine l_sld C0 hX hbl hbn hw dL_law_1077 ?_
  refine l_V (vv := vI) (As := [.int (xs ((x5 + 1) : Int32).toNatClampNeg)]) (rest := []) (kd := 7) (ci := 4) C0 hw (Or.inr ⟨rfl, rfl, rfl⟩) rfl (fun ad nT nO => c_X4_grind C0.2.2.2.2.2.2 _ (xs ((x5 + 1) : Int32).toNatClampNeg)) (qc152 C0.1.2.2.2.2 ⟨Nat.le_of_ble_eq_true rfl, Nat.le_of_ble_eq_true rfl⟩) rfl hl.1 rfl (lv_room (Nat.le_of_ble_eq_true rfl)) dL_law_1078 ⟨by show _ ≤ 603072; omega, by show _ ≤ 7231594; omega⟩ (fun r50 H locs _ hw => ?_)
  refine s_istore (lv' := [(7, .int r50.1), (6, .int r49.1), (0, .ref b), (1, .ref y0), (2, .ref y7), (3, .ref y12), (4, .ref y13), (5, .int x5)]) C0 dL_law_1081 hl (by decide) rfl (fun ls hl => ?_)
  refine s_goto (tgt := 1381) C0 dL_law_1083 (by decide) ?_
  refine s_iinc (k := 7) (v := (x5 + 5)) (lv' := [(5, .int (x5 + 5)), (7, .int r50.1), (6, .int r49.1), (0, .ref b), (1, .ref y0), (2, .ref y7), (3, .ref y12), (4, .ref y13)]) C0 dL_law_1381 hl rfl rfl (by decide) rfl (fun ls hl => ?_)
  refine s_goto (tgt := 28) C0 dL_law_1384 (by decide) ?_
  refine s_widen (k := 34 + 9 * (t + 1)) (n := 1366 + 230 * (t + 1)) (by omega) (by omega) ?_
  exact hrec r50.2 (x5 + 5) _ _ _ hw (lv_sub hl [3, 4, 5, 6, 7, 0] rfl)
def f_law_25 (N : Nat) (xs : Nat → Int32) (rec : Sg → Int32 → Option Unit) (σ : Sg) (x5 : Int32) : Option Unit :=
  (if ((x5 + 1) : Int32) < 0 ∨ N ≤ ((x5 + 1) : Int32).toNatClampNeg then none else ((f_L_recuts σ (xs ((x5 + 1) : Int32).toNatClampNeg)).bind (fun r51 => (if ((x5 + 1) : Int32) < 0 ∨ N ≤ ((x5 + 1) : Int32).toNatClampNeg then none else ((f_X4_recuts r51.2 (xs ((x5 + 1) : Int32).toNatClampNeg)).bind (fun r52 => (rec r52.2 (x5 + 5))))))))
set_option maxRecDepth 100000 in
set_option maxHeartbeats 8000000 in
theorem b_law_25 (C0 : Cx p l s m args meth c cL_law 9 RL D cy n0) (hX : va_X b N xs s s.heap) (hbl : b < s.heap.size) (hbn : ¬ n0 ≤ b) (rec : Sg → Int32 → Option Unit) (t : Nat) (ht : t < 513) (hrec : ∀ (σ : Sg) (x5 : Int32) (H : Heap) (locs : List Loc) (ls : Array Slot), LW D cy n0 s y0 y7 y12 y13 σ H locs → lv_has ls 9 [(0, .ref b), (1, .ref y0), (2, .ref y7), (3, .ref y12), (4, .ref y13), (5, .int x5)] → Sm Qf (rec σ x5) p l e room_1 s m args below meth c H locs (34 + 9 * (t + 1)) (1366 + 230 * (t + 1)) (F0 m 28 ls [])) (σ : Sg) (x5 : Int32) (H : Heap) (locs : List Loc) (ls : Array Slot) (hw : LW D cy n0 s y0 y7 y12 y13 σ H locs) (hl : lv_has ls 9 [(0, .ref b), (1, .ref y0), (2, .ref y7), (3, .ref y12), (4, .ref y13), (5, .int x5)]) : Sm Qf (f_law_25 N xs rec σ x5) p l e room_1 s m args below meth c H locs (34 + 9 * t) (1366 + 230 * t) (F0 m 1086 ls []) := by
  unfold f_law_25
  refine s_aload_n C0 dL_law_1086 rfl (lv_at hl 1 rfl) ?_
  refine s_aload_n C0 dL_law_1087 rfl (lv_at hl 0 rfl) ?_
  refine s_iload C0 dL_law_1088 (lv_at hl 5 rfl) ?_
  refine s_iconst (v := 1) C0 dL_law_1090 (by decide) ?_
  refine s_iadd C0 dL_law_1091 ?_
  refine l_sld C0 hX hbl hbn hw dL_law_1092 ?_
  refine s_aload_n C0 dL_law_1093 rfl (lv_at hl 3 rfl) ?_
  refine l_H (As := (fun ad => [.ref (ad 0 0), .int (xs ((x5 + 1) : Int32).toNatClampNeg), .ref (ad 12 0)])) (rest := []) C0 hw (fun ad nT nO => c_L_recuts C0.2.2.2.2.2.2 _ (xs ((x5 + 1) : Int32).toNatClampNeg)) (qc153 C0.1.2.2.2.2 ⟨Nat.le_of_ble_eq_true rfl, Nat.le_of_ble_eq_true rfl⟩) (fun _ => rfl) hl.1 (fun ad e0 e12 e13 => by simp [e0, e12]) (lv_room (Nat.le_of_ble_eq_true rfl)) dL_law_1094 ⟨by show _ ≤ 603072; omega, by show _ ≤ 7231594; omega⟩ (fun r51 H locs _ hw => ?_)
  refine s_istore (lv' := [(6, .int r51.1), (0, .ref b), (1, .ref y0), (2, .ref y7), (3, .ref y12), (4, .ref y13), (5, .int x5)]) C0 dL_law_1097 hl (by decide) rfl (fun ls hl => ?_)
  refine s_aload_n C0 dL_law_1099 rfl (lv_at hl 3 rfl) ?_
  refine s_aload_n C0 dL_law_1100 rfl (lv_at hl 1 rfl) ?_
  refine s_iload C0 dL_law_1101 (lv_at hl 6 rfl) ?_
  refine s_iconst (v := 1) C0 dL_law_1103 (by decide) ?_
  refine s_iadd C0 dL_law_1104 ?_
  refine l_sld C0 hX hbl hbn hw dL_law_1105 ?_
  refine l_V (vv := vI) (As := [.int (xs ((x5 + 1) : Int32).toNatClampNeg)]) (rest := []) (kd := 7) (ci := 4) C0 hw (Or.inr ⟨rfl, rfl, rfl⟩) rfl (fun ad nT nO => c_X4_recuts C0.2.2.2.2.2.2 _ (xs ((x5 + 1) : Int32).toNatClampNeg)) (qc154 C0.1.2.2.2.2 ⟨Nat.le_of_ble_eq_true rfl, Nat.le_of_ble_eq_true rfl⟩) rfl hl.1 rfl (lv_room (Nat.le_of_ble_eq_true rfl)) dL_law_1106 ⟨by show _ ≤ 603072; omega, by show _ ≤ 7231594; omega⟩ (fun r52 H locs _ hw => ?_)
  refine s_istore (lv' := [(7, .int r52.1), (6, .int r51.1), (0, .ref b), (1, .ref y0), (2, .ref y7), (3, .ref y12), (4, .ref y13), (5, .int x5)]) C0 dL_law_1109 hl (by decide) rfl (fun ls hl => ?_)
  refine s_goto (tgt := 1381) C0 dL_law_1111 (by decide) ?_
  refine s_iinc (k := 7) (v := (x5 + 5)) (lv' := [(5, .int (x5 + 5)), (7, .int r52.1), (6, .int r51.1), (0, .ref b), (1, .ref y0), (2, .ref y7), (3, .ref y12), (4, .ref y13)]) C0 dL_law_1381 hl rfl rfl (by decide) rfl (fun ls hl => ?_)
  refine s_goto (tgt := 28) C0 dL_law_1384 (by decide) ?_
  refine s_widen (k := 34 + 9 * (t + 1)) (n := 1366 + 230 * (t + 1)) (by omega) (by omega) ?_
  exact hrec r52.2 (x5 + 5) _ _ _ hw (lv_sub hl [3, 4, 5, 6, 7, 0] rfl)
def f_law_26 (N : Nat) (xs : Nat → Int32) (rec : Sg → Int32 → Option Unit) (σ : Sg) (x5 : Int32) : Option Unit :=
  (if ((x5 + 1) : Int32) < 0 ∨ N ≤ ((x5 + 1) : Int32).toNatClampNeg then none else (if ((x5 + 2) : Int32) < 0 ∨ N ≤ ((x5 + 2) : Int32).toNatClampNeg then none else ((f_L_recutsLeft σ (xs ((x5 + 1) : Int32).toNatClampNeg) ((((xs ((x5 + 2) : Int32).toNatClampNeg) : Int32).toUInt32 % 65536).toInt32)).bind (fun r53 => (if ((x5 + 1) : Int32) < 0 ∨ N ≤ ((x5 + 1) : Int32).toNatClampNeg then none else (if ((x5 + 2) : Int32) < 0 ∨ N ≤ ((x5 + 2) : Int32).toNatClampNeg then none else ((f_X4_recutsLeft r53.2 (xs ((x5 + 1) : Int32).toNatClampNeg) ((((xs ((x5 + 2) : Int32).toNatClampNeg) : Int32).toUInt32 % 65536).toInt32)).bind (fun r54 => (rec r54.2 (x5 + 5))))))))))
set_option maxRecDepth 100000 in
set_option maxHeartbeats 8000000 in
theorem b_law_26 (C0 : Cx p l s m args meth c cL_law 9 RL D cy n0) (hX : va_X b N xs s s.heap) (hbl : b < s.heap.size) (hbn : ¬ n0 ≤ b) (rec : Sg → Int32 → Option Unit) (t : Nat) (ht : t < 513) (hrec : ∀ (σ : Sg) (x5 : Int32) (H : Heap) (locs : List Loc) (ls : Array Slot), LW D cy n0 s y0 y7 y12 y13 σ H locs → lv_has ls 9 [(0, .ref b), (1, .ref y0), (2, .ref y7), (3, .ref y12), (4, .ref y13), (5, .int x5)] → Sm Qf (rec σ x5) p l e room_1 s m args below meth c H locs (34 + 9 * (t + 1)) (1366 + 230 * (t + 1)) (F0 m 28 ls [])) (σ : Sg) (x5 : Int32) (H : Heap) (locs : List Loc) (ls : Array Slot) (hw : LW D cy n0 s y0 y7 y12 y13 σ H locs) (hl : lv_has ls 9 [(0, .ref b), (1, .ref y0), (2, .ref y7), (3, .ref y12), (4, .ref y13), (5, .int x5)]) : Sm Qf (f_law_26 N xs rec σ x5) p l e room_1 s m args below meth c H locs (34 + 9 * t) (1366 + 230 * t) (F0 m 1114 ls []) := by
  unfold f_law_26
  refine s_aload_n C0 dL_law_1114 rfl (lv_at hl 1 rfl) ?_
  refine s_aload_n C0 dL_law_1115 rfl (lv_at hl 0 rfl) ?_
  refine s_iload C0 dL_law_1116 (lv_at hl 5 rfl) ?_
  refine s_iconst (v := 1) C0 dL_law_1118 (by decide) ?_
  refine s_iadd C0 dL_law_1119 ?_
  refine l_sld C0 hX hbl hbn hw dL_law_1120 ?_
  refine s_aload_n C0 dL_law_1121 rfl (lv_at hl 0 rfl) ?_
  refine s_iload C0 dL_law_1122 (lv_at hl 5 rfl) ?_
  refine s_iconst (v := 2) C0 dL_law_1124 (by decide) ?_
  refine s_iadd C0 dL_law_1125 ?_
  refine l_sld C0 hX hbl hbn hw dL_law_1126 ?_
  refine s_i2c C0 dL_law_1127 rfl ?_
  refine s_aload_n C0 dL_law_1128 rfl (lv_at hl 3 rfl) ?_
  refine l_H (As := (fun ad => [.ref (ad 0 0), .int (xs ((x5 + 1) : Int32).toNatClampNeg), .int ((((xs ((x5 + 2) : Int32).toNatClampNeg) : Int32).toUInt32 % 65536).toInt32), .ref (ad 12 0)])) (rest := []) C0 hw (fun ad nT nO => c_L_recutsLeft C0.2.2.2.2.2.2 _ (xs ((x5 + 1) : Int32).toNatClampNeg) ((((xs ((x5 + 2) : Int32).toNatClampNeg) : Int32).toUInt32 % 65536).toInt32)) (qc155 C0.1.2.2.2.2 ⟨Nat.le_of_ble_eq_true rfl, Nat.le_of_ble_eq_true rfl⟩) (fun _ => rfl) hl.1 (fun ad e0 e12 e13 => by simp [e0, e12]) (lv_room (Nat.le_of_ble_eq_true rfl)) dL_law_1129 ⟨by show _ ≤ 603072; omega, by show _ ≤ 7231594; omega⟩ (fun r53 H locs _ hw => ?_)
  refine s_istore (lv' := [(6, .int r53.1), (0, .ref b), (1, .ref y0), (2, .ref y7), (3, .ref y12), (4, .ref y13), (5, .int x5)]) C0 dL_law_1132 hl (by decide) rfl (fun ls hl => ?_)
  refine s_aload_n C0 dL_law_1134 rfl (lv_at hl 3 rfl) ?_
  refine s_aload_n C0 dL_law_1135 rfl (lv_at hl 1 rfl) ?_
  refine s_iload C0 dL_law_1136 (lv_at hl 6 rfl) ?_
  refine s_iconst (v := 1) C0 dL_law_1138 (by decide) ?_
  refine s_iadd C0 dL_law_1139 ?_
  refine l_sld C0 hX hbl hbn hw dL_law_1140 ?_
  refine s_aload_n C0 dL_law_1141 rfl (lv_at hl 1 rfl) ?_
  refine s_iload C0 dL_law_1142 (lv_at hl 6 rfl) ?_
  refine s_iconst (v := 2) C0 dL_law_1144 (by decide) ?_
  refine s_iadd C0 dL_law_1145 ?_
  refine l_sld C0 hX hbl hbn hw dL_law_1146 ?_
  refine s_i2c C0 dL_law_1147 rfl ?_
  refine l_V (vv := vI) (As := [.int (xs ((x5 + 1) : Int32).toNatClampNeg), .int ((((xs ((x5 + 2) : Int32).toNatClampNeg) : Int32).toUInt32 % 65536).toInt32)]) (rest := []) (kd := 7) (ci := 4) C0 hw (Or.inr ⟨rfl, rfl, rfl⟩) rfl (fun ad nT nO => c_X4_recutsLeft C0.2.2.2.2.2.2 _ (xs ((x5 + 1) : Int32).toNatClampNeg) ((((xs ((x5 + 2) : Int32).toNatClampNeg) : Int32).toUInt32 % 65536).toInt32)) (qc156 C0.1.2.2.2.2 ⟨Nat.le_of_ble_eq_true rfl, Nat.le_of_ble_eq_true rfl⟩) rfl hl.1 rfl (lv_room (Nat.le_of_ble_eq_true rfl)) dL_law_1148 ⟨by show _ ≤ 603072; omega, by show _ ≤ 7231594; omega⟩ (fun r54 H locs _ hw => ?_)
  refine s_istore (lv' := [(7, .int r54.1), (6, .int r53.1), (0, .ref b), (1, .ref y0), (2, .ref y7), (3, .ref y12), (4, .ref y13), (5, .int x5)]) C0 dL_law_1151 hl (by decide) rfl (fun ls hl => ?_)
  refine s_goto (tgt := 1381) C0 dL_law_1153 (by decide) ?_
  refine s_iinc (k := 7) (v := (x5 + 5)) (lv' := [(5, .int (x5 + 5)), (7, .int r54.1), (6, .int r53.1), (0, .ref b), (1, .ref y0), (2, .ref y7), (3, .ref y12), (4, .ref y13)]) C0 dL_law_1381 hl rfl rfl (by decide) rfl (fun ls hl => ?_)
  refine s_goto (tgt := 28) C0 dL_law_1384 (by decide) ?_
  refine s_widen (k := 34 + 9 * (t + 1)) (n := 1366 + 230 * (t + 1)) (by omega) (by omega) ?_
  exact hrec r54.2 (x5 + 5) _ _ _ hw (lv_sub hl [3, 4, 5, 6, 7, 0] rfl)
def f_law_27 (N : Nat) (xs : Nat → Int32) (rec : Sg → Int32 → Option Unit) (σ : Sg) (x5 : Int32) : Option Unit :=
  (if ((x5 + 1) : Int32) < 0 ∨ N ≤ ((x5 + 1) : Int32).toNatClampNeg then none else (if ((x5 + 2) : Int32) < 0 ∨ N ≤ ((x5 + 2) : Int32).toNatClampNeg then none else (if ((x5 + 3) : Int32) < 0 ∨ N ≤ ((x5 + 3) : Int32).toNatClampNeg then none else ((f_L_order σ ((((xs ((x5 + 1) : Int32).toNatClampNeg) : Int32).toUInt32 % 65536).toInt32) ((((xs ((x5 + 2) : Int32).toNatClampNeg) : Int32).toUInt32 % 65536).toInt32) (xs ((x5 + 3) : Int32).toNatClampNeg)).bind (fun r55 => (if ((x5 + 1) : Int32) < 0 ∨ N ≤ ((x5 + 1) : Int32).toNatClampNeg then none else (if ((x5 + 2) : Int32) < 0 ∨ N ≤ ((x5 + 2) : Int32).toNatClampNeg then none else (if ((x5 + 3) : Int32) < 0 ∨ N ≤ ((x5 + 3) : Int32).toNatClampNeg then none else ((f_X4_order r55.2 ((((xs ((x5 + 1) : Int32).toNatClampNeg) : Int32).toUInt32 % 65536).toInt32) ((((xs ((x5 + 2) : Int32).toNatClampNeg) : Int32).toUInt32 % 65536).toInt32) (xs ((x5 + 3) : Int32).toNatClampNeg)).bind (fun r56 => (rec r56.2 (x5 + 5))))))))))))
set_option maxRecDepth 100000 in
set_option maxHeartbeats 8000000 in
theorem b_law_27 (C0 : Cx p l s m args meth c cL_law 9 RL D cy n0) (hX : va_X b N xs s s.heap) (hbl : b < s.heap.size) (hbn : ¬ n0 ≤ b) (rec : Sg → Int32 → Option Unit) (t : Nat) (ht : t < 513) (hrec : ∀ (σ : Sg) (x5 : Int32) (H : Heap) (locs : List Loc) (ls : Array Slot), LW D cy n0 s y0 y7 y12 y13 σ H locs → lv_has ls 9 [(0, .ref b), (1, .ref y0), (2, .ref y7), (3, .ref y12), (4, .ref y13), (5, .int x5)] → Sm Qf (rec σ x5) p l e room_1 s m args below meth c H locs (34 + 9 * (t + 1)) (1366 + 230 * (t + 1)) (F0 m 28 ls [])) (σ : Sg) (x5 : Int32) (H : Heap) (locs : List Loc) (ls : Array Slot) (hw : LW D cy n0 s y0 y7 y12 y13 σ H locs) (hl : lv_has ls 9 [(0, .ref b), (1, .ref y0), (2, .ref y7), (3, .ref y12), (4, .ref y13), (5, .int x5)]) : Sm Qf (f_law_27 N xs rec σ x5) p l e room_1 s m args below meth c H locs (34 + 9 * t) (1366 + 230 * t) (F0 m 1156 ls []) := by
  unfold f_law_27
  refine s_aload_n C0 dL_law_1156 rfl (lv_at hl 1 rfl) ?_
  refine s_aload_n C0 dL_law_1157 rfl (lv_at hl 0 rfl) ?_
  refine s_iload C0 dL_law_1158 (lv_at hl 5 rfl) ?_
  refine s_iconst (v := 1) C0 dL_law_1160 (by decide) ?_
  refine s_iadd C0 dL_law_1161 ?_
  refine l_sld C0 hX hbl hbn hw dL_law_1162 ?_
  refine s_i2c C0 dL_law_1163 rfl ?_
  refine s_aload_n C0 dL_law_1164 rfl (lv_at hl 0 rfl) ?_
  refine s_iload C0 dL_law_1165 (lv_at hl 5 rfl) ?_
  refine s_iconst (v := 2) C0 dL_law_1167 (by decide) ?_
  refine s_iadd C0 dL_law_1168 ?_
  refine l_sld C0 hX hbl hbn hw dL_law_1169 ?_
  refine s_i2c C0 dL_law_1170 rfl ?_
  refine s_aload_n C0 dL_law_1171 rfl (lv_at hl 0 rfl) ?_
  refine s_iload C0 dL_law_1172 (lv_at hl 5 rfl) ?_
  refine s_iconst (v := 3) C0 dL_law_1174 (by decide) ?_
  refine s_iadd C0 dL_law_1175 ?_
  refine l_sld C0 hX hbl hbn hw dL_law_1176 ?_
  refine s_aload_n C0 dL_law_1177 rfl (lv_at hl 3 rfl) ?_
  refine l_H (As := (fun ad => [.ref (ad 0 0), .int ((((xs ((x5 + 1) : Int32).toNatClampNeg) : Int32).toUInt32 % 65536).toInt32), .int ((((xs ((x5 + 2) : Int32).toNatClampNeg) : Int32).toUInt32 % 65536).toInt32), .int (xs ((x5 + 3) : Int32).toNatClampNeg), .ref (ad 12 0)])) (rest := []) C0 hw (fun ad nT nO => c_L_order C0.2.2.2.2.2.2 _ ((((xs ((x5 + 1) : Int32).toNatClampNeg) : Int32).toUInt32 % 65536).toInt32) ((((xs ((x5 + 2) : Int32).toNatClampNeg) : Int32).toUInt32 % 65536).toInt32) (xs ((x5 + 3) : Int32).toNatClampNeg)) (qc157 C0.1.2.2.2.2 ⟨Nat.le_of_ble_eq_true rfl, Nat.le_of_ble_eq_true rfl⟩) (fun _ => rfl) hl.1 (fun ad e0 e12 e13 => by simp [e0, e12]) (lv_room (Nat.le_of_ble_eq_true rfl)) dL_law_1178 ⟨by show _ ≤ 603072; omega, by show _ ≤ 7231594; omega⟩ (fun r55 H locs _ hw => ?_)
  refine s_istore (lv' := [(6, .int r55.1), (0, .ref b), (1, .ref y0), (2, .ref y7), (3, .ref y12), (4, .ref y13), (5, .int x5)]) C0 dL_law_1181 hl (by decide) rfl (fun ls hl => ?_)
  refine s_aload_n C0 dL_law_1183 rfl (lv_at hl 3 rfl) ?_
  refine s_aload_n C0 dL_law_1184 rfl (lv_at hl 1 rfl) ?_
  refine s_iload C0 dL_law_1185 (lv_at hl 6 rfl) ?_
  refine s_iconst (v := 1) C0 dL_law_1187 (by decide) ?_
  refine s_iadd C0 dL_law_1188 ?_
  refine l_sld C0 hX hbl hbn hw dL_law_1189 ?_
  refine s_i2c C0 dL_law_1190 rfl ?_
  refine s_aload_n C0 dL_law_1191 rfl (lv_at hl 1 rfl) ?_
  refine s_iload C0 dL_law_1192 (lv_at hl 6 rfl) ?_
  refine s_iconst (v := 2) C0 dL_law_1194 (by decide) ?_
  refine s_iadd C0 dL_law_1195 ?_
  refine l_sld C0 hX hbl hbn hw dL_law_1196 ?_
  refine s_i2c C0 dL_law_1197 rfl ?_
  refine s_aload_n C0 dL_law_1198 rfl (lv_at hl 1 rfl) ?_
  refine s_iload C0 dL_law_1199 (lv_at hl 6 rfl) ?_
  refine s_iconst (v := 3) C0 dL_law_1201 (by decide) ?_
  refine s_iadd C0 dL_law_1202 ?_
  refine l_sld C0 hX hbl hbn hw dL_law_1203 ?_
  refine l_V (vv := vI) (As := [.int ((((xs ((x5 + 1) : Int32).toNatClampNeg) : Int32).toUInt32 % 65536).toInt32), .int ((((xs ((x5 + 2) : Int32).toNatClampNeg) : Int32).toUInt32 % 65536).toInt32), .int (xs ((x5 + 3) : Int32).toNatClampNeg)]) (rest := []) (kd := 7) (ci := 4) C0 hw (Or.inr ⟨rfl, rfl, rfl⟩) rfl (fun ad nT nO => c_X4_order C0.2.2.2.2.2.2 _ ((((xs ((x5 + 1) : Int32).toNatClampNeg) : Int32).toUInt32 % 65536).toInt32) ((((xs ((x5 + 2) : Int32).toNatClampNeg) : Int32).toUInt32 % 65536).toInt32) (xs ((x5 + 3) : Int32).toNatClampNeg)) (qc158 C0.1.2.2.2.2 ⟨Nat.le_of_ble_eq_true rfl, Nat.le_of_ble_eq_true rfl⟩) rfl hl.1 rfl (lv_room (Nat.le_of_ble_eq_true rfl)) dL_law_1204 ⟨by show _ ≤ 603072; omega, by show _ ≤ 7231594; omega⟩ (fun r56 H locs _ hw => ?_)
  refine s_istore (lv' := [(7, .int r56.1), (6, .int r55.1), (0, .ref b), (1, .ref y0), (2, .ref y7), (3, .ref y12), (4, .ref y13), (5, .int x5)]) C0 dL_law_1207 hl (by decide) rfl (fun ls hl => ?_)
  refine s_goto (tgt := 1381) C0 dL_law_1209 (by decide) ?_
  refine s_iinc (k := 7) (v := (x5 + 5)) (lv' := [(5, .int (x5 + 5)), (7, .int r56.1), (6, .int r55.1), (0, .ref b), (1, .ref y0), (2, .ref y7), (3, .ref y12), (4, .ref y13)]) C0 dL_law_1381 hl rfl rfl (by decide) rfl (fun ls hl => ?_)
  refine s_goto (tgt := 28) C0 dL_law_1384 (by decide) ?_
  refine s_widen (k := 34 + 9 * (t + 1)) (n := 1366 + 230 * (t + 1)) (by omega) (by omega) ?_
  exact hrec r56.2 (x5 + 5) _ _ _ hw (lv_sub hl [3, 4, 5, 6, 7, 0] rfl)
def f_law_28 (N : Nat) (xs : Nat → Int32) (rec : Sg → Int32 → Option Unit) (σ : Sg) (x5 : Int32) : Option Unit :=
  (if ((x5 + 1) : Int32) < 0 ∨ N ≤ ((x5 + 1) : Int32).toNatClampNeg then none else (if ((x5 + 2) : Int32) < 0 ∨ N ≤ ((x5 + 2) : Int32).toNatClampNeg then none else ((f_L_isGood σ (xs ((x5 + 1) : Int32).toNatClampNeg) (xs ((x5 + 2) : Int32).toNatClampNeg)).bind (fun r57 => (if ((x5 + 1) : Int32) < 0 ∨ N ≤ ((x5 + 1) : Int32).toNatClampNeg then none else (if ((x5 + 2) : Int32) < 0 ∨ N ≤ ((x5 + 2) : Int32).toNatClampNeg then none else ((f_X4_isGood r57.2 (xs ((x5 + 1) : Int32).toNatClampNeg) (xs ((x5 + 2) : Int32).toNatClampNeg)).bind (fun r58 => (rec r58.2 (x5 + 5))))))))))
set_option maxRecDepth 100000 in
set_option maxHeartbeats 8000000 in
theorem b_law_28 (C0 : Cx p l s m args meth c cL_law 9 RL D cy n0) (hX : va_X b N xs s s.heap) (hbl : b < s.heap.size) (hbn : ¬ n0 ≤ b) (rec : Sg → Int32 → Option Unit) (t : Nat) (ht : t < 513) (hrec : ∀ (σ : Sg) (x5 : Int32) (H : Heap) (locs : List Loc) (ls : Array Slot), LW D cy n0 s y0 y7 y12 y13 σ H locs → lv_has ls 9 [(0, .ref b), (1, .ref y0), (2, .ref y7), (3, .ref y12), (4, .ref y13), (5, .int x5)] → Sm Qf (rec σ x5) p l e room_1 s m args below meth c H locs (34 + 9 * (t + 1)) (1366 + 230 * (t + 1)) (F0 m 28 ls [])) (σ : Sg) (x5 : Int32) (H : Heap) (locs : List Loc) (ls : Array Slot) (hw : LW D cy n0 s y0 y7 y12 y13 σ H locs) (hl : lv_has ls 9 [(0, .ref b), (1, .ref y0), (2, .ref y7), (3, .ref y12), (4, .ref y13), (5, .int x5)]) : Sm Qf (f_law_28 N xs rec σ x5) p l e room_1 s m args below meth c H locs (34 + 9 * t) (1366 + 230 * t) (F0 m 1212 ls []) := by
  unfold f_law_28
  refine s_aload_n C0 dL_law_1212 rfl (lv_at hl 1 rfl) ?_
  refine s_aload_n C0 dL_law_1213 rfl (lv_at hl 0 rfl) ?_
  refine s_iload C0 dL_law_1214 (lv_at hl 5 rfl) ?_
  refine s_iconst (v := 1) C0 dL_law_1216 (by decide) ?_
  refine s_iadd C0 dL_law_1217 ?_
  refine l_sld C0 hX hbl hbn hw dL_law_1218 ?_
  refine s_aload_n C0 dL_law_1219 rfl (lv_at hl 0 rfl) ?_
  refine s_iload C0 dL_law_1220 (lv_at hl 5 rfl) ?_
  refine s_iconst (v := 2) C0 dL_law_1222 (by decide) ?_
  refine s_iadd C0 dL_law_1223 ?_
  refine l_sld C0 hX hbl hbn hw dL_law_1224 ?_
  refine s_aload_n C0 dL_law_1225 rfl (lv_at hl 3 rfl) ?_
  refine l_H (As := (fun ad => [.ref (ad 0 0), .int (xs ((x5 + 1) : Int32).toNatClampNeg), .int (xs ((x5 + 2) : Int32).toNatClampNeg), .ref (ad 12 0)])) (rest := []) C0 hw (fun ad nT nO => c_L_isGood C0.2.2.2.2.2.2 _ (xs ((x5 + 1) : Int32).toNatClampNeg) (xs ((x5 + 2) : Int32).toNatClampNeg)) (qc159 C0.1.2.2.2.2 ⟨Nat.le_of_ble_eq_true rfl, Nat.le_of_ble_eq_true rfl⟩) (fun _ => rfl) hl.1 (fun ad e0 e12 e13 => by simp [e0, e12]) (lv_room (Nat.le_of_ble_eq_true rfl)) dL_law_1226 ⟨by show _ ≤ 603072; omega, by show _ ≤ 7231594; omega⟩ (fun r57 H locs _ hw => ?_)
  refine s_istore (lv' := [(6, .int r57.1), (0, .ref b), (1, .ref y0), (2, .ref y7), (3, .ref y12), (4, .ref y13), (5, .int x5)]) C0 dL_law_1229 hl (by decide) rfl (fun ls hl => ?_)
  refine s_aload_n C0 dL_law_1231 rfl (lv_at hl 3 rfl) ?_
  refine s_aload_n C0 dL_law_1232 rfl (lv_at hl 1 rfl) ?_
  refine s_iload C0 dL_law_1233 (lv_at hl 6 rfl) ?_
  refine s_iconst (v := 1) C0 dL_law_1235 (by decide) ?_
  refine s_iadd C0 dL_law_1236 ?_
  refine l_sld C0 hX hbl hbn hw dL_law_1237 ?_
  refine s_aload_n C0 dL_law_1238 rfl (lv_at hl 1 rfl) ?_
  refine s_iload C0 dL_law_1239 (lv_at hl 6 rfl) ?_
  refine s_iconst (v := 2) C0 dL_law_1241 (by decide) ?_
  refine s_iadd C0 dL_law_1242 ?_
  refine l_sld C0 hX hbl hbn hw dL_law_1243 ?_
  refine l_V (vv := vI) (As := [.int (xs ((x5 + 1) : Int32).toNatClampNeg), .int (xs ((x5 + 2) : Int32).toNatClampNeg)]) (rest := []) (kd := 7) (ci := 4) C0 hw (Or.inr ⟨rfl, rfl, rfl⟩) rfl (fun ad nT nO => c_X4_isGood C0.2.2.2.2.2.2 _ (xs ((x5 + 1) : Int32).toNatClampNeg) (xs ((x5 + 2) : Int32).toNatClampNeg)) (qc160 C0.1.2.2.2.2 ⟨Nat.le_of_ble_eq_true rfl, Nat.le_of_ble_eq_true rfl⟩) rfl hl.1 rfl (lv_room (Nat.le_of_ble_eq_true rfl)) dL_law_1244 ⟨by show _ ≤ 603072; omega, by show _ ≤ 7231594; omega⟩ (fun r58 H locs _ hw => ?_)
  refine s_istore (lv' := [(7, .int r58.1), (6, .int r57.1), (0, .ref b), (1, .ref y0), (2, .ref y7), (3, .ref y12), (4, .ref y13), (5, .int x5)]) C0 dL_law_1247 hl (by decide) rfl (fun ls hl => ?_)
  refine s_goto (tgt := 1381) C0 dL_law_1249 (by decide) ?_
  refine s_iinc (k := 7) (v := (x5 + 5)) (lv' := [(5, .int (x5 + 5)), (7, .int r58.1), (6, .int r57.1), (0, .ref b), (1, .ref y0), (2, .ref y7), (3, .ref y12), (4, .ref y13)]) C0 dL_law_1381 hl rfl rfl (by decide) rfl (fun ls hl => ?_)
  refine s_goto (tgt := 28) C0 dL_law_1384 (by decide) ?_
  refine s_widen (k := 34 + 9 * (t + 1)) (n := 1366 + 230 * (t + 1)) (by omega) (by omega) ?_
  exact hrec r58.2 (x5 + 5) _ _ _ hw (lv_sub hl [3, 4, 5, 6, 7, 0] rfl)
def f_law_29 (N : Nat) (xs : Nat → Int32) (rec : Sg → Int32 → Option Unit) (σ : Sg) (x5 : Int32) : Option Unit :=
  (if ((x5 + 1) : Int32) < 0 ∨ N ≤ ((x5 + 1) : Int32).toNatClampNeg then none else (if ((x5 + 2) : Int32) < 0 ∨ N ≤ ((x5 + 2) : Int32).toNatClampNeg then none else ((f_L_send σ (xs ((x5 + 1) : Int32).toNatClampNeg) (xs ((x5 + 2) : Int32).toNatClampNeg)).bind (fun r59 => (if ((x5 + 1) : Int32) < 0 ∨ N ≤ ((x5 + 1) : Int32).toNatClampNeg then none else (if ((x5 + 2) : Int32) < 0 ∨ N ≤ ((x5 + 2) : Int32).toNatClampNeg then none else ((f_X4_send r59.2 (xs ((x5 + 1) : Int32).toNatClampNeg) (xs ((x5 + 2) : Int32).toNatClampNeg)).bind (fun r60 => (rec r60.2 (x5 + 5))))))))))
set_option maxRecDepth 100000 in
set_option maxHeartbeats 8000000 in
theorem b_law_29 (C0 : Cx p l s m args meth c cL_law 9 RL D cy n0) (hX : va_X b N xs s s.heap) (hbl : b < s.heap.size) (hbn : ¬ n0 ≤ b) (rec : Sg → Int32 → Option Unit) (t : Nat) (ht : t < 513) (hrec : ∀ (σ : Sg) (x5 : Int32) (H : Heap) (locs : List Loc) (ls : Array Slot), LW D cy n0 s y0 y7 y12 y13 σ H locs → lv_has ls 9 [(0, .ref b), (1, .ref y0), (2, .ref y7), (3, .ref y12), (4, .ref y13), (5, .int x5)] → Sm Qf (rec σ x5) p l e room_1 s m args below meth c H locs (34 + 9 * (t + 1)) (1366 + 230 * (t + 1)) (F0 m 28 ls [])) (σ : Sg) (x5 : Int32) (H : Heap) (locs : List Loc) (ls : Array Slot) (hw : LW D cy n0 s y0 y7 y12 y13 σ H locs) (hl : lv_has ls 9 [(0, .ref b), (1, .ref y0), (2, .ref y7), (3, .ref y12), (4, .ref y13), (5, .int x5)]) : Sm Qf (f_law_29 N xs rec σ x5) p l e room_1 s m args below meth c H locs (34 + 9 * t) (1366 + 230 * t) (F0 m 1252 ls []) := by
  unfold f_law_29
  refine s_aload_n C0 dL_law_1252 rfl (lv_at hl 1 rfl) ?_
  refine s_aload_n C0 dL_law_1253 rfl (lv_at hl 0 rfl) ?_
  refine s_iload C0 dL_law_1254 (lv_at hl 5 rfl) ?_
  refine s_iconst (v := 1) C0 dL_law_1256 (by decide) ?_
  refine s_iadd C0 dL_law_1257 ?_
  refine l_sld C0 hX hbl hbn hw dL_law_1258 ?_
  refine s_aload_n C0 dL_law_1259 rfl (lv_at hl 0 rfl) ?_
  refine s_iload C0 dL_law_1260 (lv_at hl 5 rfl) ?_
  refine s_iconst (v := 2) C0 dL_law_1262 (by decide) ?_
  refine s_iadd C0 dL_law_1263 ?_
  refine l_sld C0 hX hbl hbn hw dL_law_1264 ?_
  refine s_aload_n C0 dL_law_1265 rfl (lv_at hl 3 rfl) ?_
  refine l_H (As := (fun ad => [.ref (ad 0 0), .int (xs ((x5 + 1) : Int32).toNatClampNeg), .int (xs ((x5 + 2) : Int32).toNatClampNeg), .ref (ad 12 0)])) (rest := []) C0 hw (fun ad nT nO => c_L_send C0.2.2.2.2.2.2 _ (xs ((x5 + 1) : Int32).toNatClampNeg) (xs ((x5 + 2) : Int32).toNatClampNeg)) (qc161 C0.1.2.2.2.2 ⟨Nat.le_of_ble_eq_true rfl, Nat.le_of_ble_eq_true rfl⟩) (fun _ => rfl) hl.1 (fun ad e0 e12 e13 => by simp [e0, e12]) (lv_room (Nat.le_of_ble_eq_true rfl)) dL_law_1266 ⟨by show _ ≤ 603072; omega, by show _ ≤ 7231594; omega⟩ (fun r59 H locs _ hw => ?_)
  refine s_istore (lv' := [(6, .int r59.1), (0, .ref b), (1, .ref y0), (2, .ref y7), (3, .ref y12), (4, .ref y13), (5, .int x5)]) C0 dL_law_1269 hl (by decide) rfl (fun ls hl => ?_)
  refine s_aload_n C0 dL_law_1271 rfl (lv_at hl 3 rfl) ?_
  refine s_aload_n C0 dL_law_1272 rfl (lv_at hl 1 rfl) ?_
  refine s_iload C0 dL_law_1273 (lv_at hl 6 rfl) ?_
  refine s_iconst (v := 1) C0 dL_law_1275 (by decide) ?_
  refine s_iadd C0 dL_law_1276 ?_
  refine l_sld C0 hX hbl hbn hw dL_law_1277 ?_
  refine s_aload_n C0 dL_law_1278 rfl (lv_at hl 1 rfl) ?_
  refine s_iload C0 dL_law_1279 (lv_at hl 6 rfl) ?_
  refine s_iconst (v := 2) C0 dL_law_1281 (by decide) ?_
  refine s_iadd C0 dL_law_1282 ?_
  refine l_sld C0 hX hbl hbn hw dL_law_1283 ?_
  refine l_V (vv := vI) (As := [.int (xs ((x5 + 1) : Int32).toNatClampNeg), .int (xs ((x5 + 2) : Int32).toNatClampNeg)]) (rest := []) (kd := 7) (ci := 4) C0 hw (Or.inr ⟨rfl, rfl, rfl⟩) rfl (fun ad nT nO => c_X4_send C0.2.2.2.2.2.2 _ (xs ((x5 + 1) : Int32).toNatClampNeg) (xs ((x5 + 2) : Int32).toNatClampNeg)) (qc162 C0.1.2.2.2.2 ⟨Nat.le_of_ble_eq_true rfl, Nat.le_of_ble_eq_true rfl⟩) rfl hl.1 rfl (lv_room (Nat.le_of_ble_eq_true rfl)) dL_law_1284 ⟨by show _ ≤ 603072; omega, by show _ ≤ 7231594; omega⟩ (fun r60 H locs _ hw => ?_)
  refine s_istore (lv' := [(7, .int r60.1), (6, .int r59.1), (0, .ref b), (1, .ref y0), (2, .ref y7), (3, .ref y12), (4, .ref y13), (5, .int x5)]) C0 dL_law_1287 hl (by decide) rfl (fun ls hl => ?_)
  refine s_goto (tgt := 1381) C0 dL_law_1289 (by decide) ?_
  refine s_iinc (k := 7) (v := (x5 + 5)) (lv' := [(5, .int (x5 + 5)), (7, .int r60.1), (6, .int r59.1), (0, .ref b), (1, .ref y0), (2, .ref y7), (3, .ref y12), (4, .ref y13)]) C0 dL_law_1381 hl rfl rfl (by decide) rfl (fun ls hl => ?_)
  refine s_goto (tgt := 28) C0 dL_law_1384 (by decide) ?_
  refine s_widen (k := 34 + 9 * (t + 1)) (n := 1366 + 230 * (t + 1)) (by omega) (by omega) ?_
  exact hrec r60.2 (x5 + 5) _ _ _ hw (lv_sub hl [3, 4, 5, 6, 7, 0] rfl)
def f_law_30 (N : Nat) (xs : Nat → Int32) (rec : Sg → Int32 → Option Unit) (σ : Sg) (x5 : Int32) : Option Unit :=
  (if ((x5 + 1) : Int32) < 0 ∨ N ≤ ((x5 + 1) : Int32).toNatClampNeg then none else ((f_L_sent σ (xs ((x5 + 1) : Int32).toNatClampNeg)).bind (fun r61 => (if ((x5 + 1) : Int32) < 0 ∨ N ≤ ((x5 + 1) : Int32).toNatClampNeg then none else ((f_X4_sent r61.2 (xs ((x5 + 1) : Int32).toNatClampNeg)).bind (fun r62 => (rec r62.2 (x5 + 5))))))))
set_option maxRecDepth 100000 in
set_option maxHeartbeats 8000000 in
theorem b_law_30 (C0 : Cx p l s m args meth c cL_law 9 RL D cy n0) (hX : va_X b N xs s s.heap) (hbl : b < s.heap.size) (hbn : ¬ n0 ≤ b) (rec : Sg → Int32 → Option Unit) (t : Nat) (ht : t < 513) (hrec : ∀ (σ : Sg) (x5 : Int32) (H : Heap) (locs : List Loc) (ls : Array Slot), LW D cy n0 s y0 y7 y12 y13 σ H locs → lv_has ls 9 [(0, .ref b), (1, .ref y0), (2, .ref y7), (3, .ref y12), (4, .ref y13), (5, .int x5)] → Sm Qf (rec σ x5) p l e room_1 s m args below meth c H locs (34 + 9 * (t + 1)) (1366 + 230 * (t + 1)) (F0 m 28 ls [])) (σ : Sg) (x5 : Int32) (H : Heap) (locs : List Loc) (ls : Array Slot) (hw : LW D cy n0 s y0 y7 y12 y13 σ H locs) (hl : lv_has ls 9 [(0, .ref b), (1, .ref y0), (2, .ref y7), (3, .ref y12), (4, .ref y13), (5, .int x5)]) : Sm Qf (f_law_30 N xs rec σ x5) p l e room_1 s m args below meth c H locs (34 + 9 * t) (1366 + 230 * t) (F0 m 1292 ls []) := by
  unfold f_law_30
  refine s_aload_n C0 dL_law_1292 rfl (lv_at hl 1 rfl) ?_
  refine s_aload_n C0 dL_law_1293 rfl (lv_at hl 0 rfl) ?_
  refine s_iload C0 dL_law_1294 (lv_at hl 5 rfl) ?_
  refine s_iconst (v := 1) C0 dL_law_1296 (by decide) ?_
  refine s_iadd C0 dL_law_1297 ?_
  refine l_sld C0 hX hbl hbn hw dL_law_1298 ?_
  refine s_aload_n C0 dL_law_1299 rfl (lv_at hl 3 rfl) ?_
  refine l_H (As := (fun ad => [.ref (ad 0 0), .int (xs ((x5 + 1) : Int32).toNatClampNeg), .ref (ad 12 0)])) (rest := []) C0 hw (fun ad nT nO => c_L_sent C0.2.2.2.2.2.2 _ (xs ((x5 + 1) : Int32).toNatClampNeg)) (qc163 C0.1.2.2.2.2 ⟨Nat.le_of_ble_eq_true rfl, Nat.le_of_ble_eq_true rfl⟩) (fun _ => rfl) hl.1 (fun ad e0 e12 e13 => by simp [e0, e12]) (lv_room (Nat.le_of_ble_eq_true rfl)) dL_law_1300 ⟨by show _ ≤ 603072; omega, by show _ ≤ 7231594; omega⟩ (fun r61 H locs _ hw => ?_)
  refine s_istore (lv' := [(6, .int r61.1), (0, .ref b), (1, .ref y0), (2, .ref y7), (3, .ref y12), (4, .ref y13), (5, .int x5)]) C0 dL_law_1303 hl (by decide) rfl (fun ls hl => ?_)
  refine s_aload_n C0 dL_law_1305 rfl (lv_at hl 3 rfl) ?_
  refine s_aload_n C0 dL_law_1306 rfl (lv_at hl 1 rfl) ?_
  refine s_iload C0 dL_law_1307 (lv_at hl 6 rfl) ?_
  refine s_iconst (v := 1) C0 dL_law_1309 (by decide) ?_
  refine s_iadd C0 dL_law_1310 ?_
  refine l_sld C0 hX hbl hbn hw dL_law_1311 ?_
  refine l_V (vv := vI) (As := [.int (xs ((x5 + 1) : Int32).toNatClampNeg)]) (rest := []) (kd := 7) (ci := 4) C0 hw (Or.inr ⟨rfl, rfl, rfl⟩) rfl (fun ad nT nO => c_X4_sent C0.2.2.2.2.2.2 _ (xs ((x5 + 1) : Int32).toNatClampNeg)) (qc164 C0.1.2.2.2.2 ⟨Nat.le_of_ble_eq_true rfl, Nat.le_of_ble_eq_true rfl⟩) rfl hl.1 rfl (lv_room (Nat.le_of_ble_eq_true rfl)) dL_law_1312 ⟨by show _ ≤ 603072; omega, by show _ ≤ 7231594; omega⟩ (fun r62 H locs _ hw => ?_)
  refine s_istore (lv' := [(7, .int r62.1), (6, .int r61.1), (0, .ref b), (1, .ref y0), (2, .ref y7), (3, .ref y12), (4, .ref y13), (5, .int x5)]) C0 dL_law_1315 hl (by decide) rfl (fun ls hl => ?_)
  refine s_goto (tgt := 1381) C0 dL_law_1317 (by decide) ?_
  refine s_iinc (k := 7) (v := (x5 + 5)) (lv' := [(5, .int (x5 + 5)), (7, .int r62.1), (6, .int r61.1), (0, .ref b), (1, .ref y0), (2, .ref y7), (3, .ref y12), (4, .ref y13)]) C0 dL_law_1381 hl rfl rfl (by decide) rfl (fun ls hl => ?_)
  refine s_goto (tgt := 28) C0 dL_law_1384 (by decide) ?_
  refine s_widen (k := 34 + 9 * (t + 1)) (n := 1366 + 230 * (t + 1)) (by omega) (by omega) ?_
  exact hrec r62.2 (x5 + 5) _ _ _ hw (lv_sub hl [3, 4, 5, 6, 7, 0] rfl)
def f_law_31 (N : Nat) (xs : Nat → Int32) (rec : Sg → Int32 → Option Unit) (σ : Sg) (x5 : Int32) : Option Unit :=
  ((f_L_wornShare σ).bind (fun r63 => ((f_X4_wornShare r63.2).bind (fun r64 => (rec r64.2 (x5 + 5))))))
set_option maxRecDepth 100000 in
set_option maxHeartbeats 8000000 in
theorem b_law_31 (C0 : Cx p l s m args meth c cL_law 9 RL D cy n0) (hX : va_X b N xs s s.heap) (hbl : b < s.heap.size) (hbn : ¬ n0 ≤ b) (rec : Sg → Int32 → Option Unit) (t : Nat) (ht : t < 513) (hrec : ∀ (σ : Sg) (x5 : Int32) (H : Heap) (locs : List Loc) (ls : Array Slot), LW D cy n0 s y0 y7 y12 y13 σ H locs → lv_has ls 9 [(0, .ref b), (1, .ref y0), (2, .ref y7), (3, .ref y12), (4, .ref y13), (5, .int x5)] → Sm Qf (rec σ x5) p l e room_1 s m args below meth c H locs (34 + 9 * (t + 1)) (1366 + 230 * (t + 1)) (F0 m 28 ls [])) (σ : Sg) (x5 : Int32) (H : Heap) (locs : List Loc) (ls : Array Slot) (hw : LW D cy n0 s y0 y7 y12 y13 σ H locs) (hl : lv_has ls 9 [(0, .ref b), (1, .ref y0), (2, .ref y7), (3, .ref y12), (4, .ref y13), (5, .int x5)]) : Sm Qf (f_law_31 N xs rec σ x5) p l e room_1 s m args below meth c H locs (34 + 9 * t) (1366 + 230 * t) (F0 m 1320 ls []) := by
  unfold f_law_31
  refine s_aload_n C0 dL_law_1320 rfl (lv_at hl 1 rfl) ?_
  refine s_aload C0 dL_law_1321 (lv_at hl 4 rfl) ?_
  refine l_H (As := (fun ad => [.ref (ad 0 0), .ref (ad 13 0)])) (rest := []) C0 hw (fun ad nT nO => c_L_wornShare C0.2.2.2.2.2.2 _) (qc165 C0.1.2.2.2.2 ⟨Nat.le_of_ble_eq_true rfl, Nat.le_of_ble_eq_true rfl⟩) (fun _ => rfl) hl.1 (fun ad e0 e12 e13 => by simp [e0, e13]) (lv_room (Nat.le_of_ble_eq_true rfl)) dL_law_1323 ⟨by show _ ≤ 603072; omega, by show _ ≤ 7231594; omega⟩ (fun r63 H locs _ hw => ?_)
  refine s_istore (lv' := [(6, .int r63.1), (0, .ref b), (1, .ref y0), (2, .ref y7), (3, .ref y12), (4, .ref y13), (5, .int x5)]) C0 dL_law_1326 hl (by decide) rfl (fun ls hl => ?_)
  refine s_aload_n C0 dL_law_1328 rfl (lv_at hl 3 rfl) ?_
  refine l_V (vv := vF) (As := []) (rest := []) (kd := 7) (ci := 4) C0 hw (Or.inr ⟨rfl, rfl, rfl⟩) rfl (fun ad nT nO => c_X4_wornShare C0.2.2.2.2.2.2 _) (qc166 C0.1.2.2.2.2 ⟨Nat.le_of_ble_eq_true rfl, Nat.le_of_ble_eq_true rfl⟩) rfl hl.1 rfl (lv_room (Nat.le_of_ble_eq_true rfl)) dL_law_1329 ⟨by show _ ≤ 603072; omega, by show _ ≤ 7231594; omega⟩ (fun r64 H locs _ hw => ?_)
  refine s_fstore (lv' := [(7, .float r64.1), (6, .int r63.1), (0, .ref b), (1, .ref y0), (2, .ref y7), (3, .ref y12), (4, .ref y13), (5, .int x5)]) C0 dL_law_1332 hl (by decide) rfl (fun ls hl => ?_)
  refine s_goto (tgt := 1381) C0 dL_law_1334 (by decide) ?_
  refine s_iinc (k := 7) (v := (x5 + 5)) (lv' := [(5, .int (x5 + 5)), (7, .float r64.1), (6, .int r63.1), (0, .ref b), (1, .ref y0), (2, .ref y7), (3, .ref y12), (4, .ref y13)]) C0 dL_law_1381 hl rfl rfl (by decide) rfl (fun ls hl => ?_)
  refine s_goto (tgt := 28) C0 dL_law_1384 (by decide) ?_
  refine s_widen (k := 34 + 9 * (t + 1)) (n := 1366 + 230 * (t + 1)) (by omega) (by omega) ?_
  exact hrec r64.2 (x5 + 5) _ _ _ hw (lv_sub hl [3, 4, 5, 6, 7, 0] rfl)
def f_law_32 (N : Nat) (xs : Nat → Int32) (rec : Sg → Int32 → Option Unit) (σ : Sg) (x5 : Int32) : Option Unit :=
  ((f_L_meanHardness σ).bind (fun r65 => ((f_X4_meanHardness r65.2).bind (fun r66 => (rec r66.2 (x5 + 5))))))
set_option maxRecDepth 100000 in
set_option maxHeartbeats 8000000 in
theorem b_law_32 (C0 : Cx p l s m args meth c cL_law 9 RL D cy n0) (hX : va_X b N xs s s.heap) (hbl : b < s.heap.size) (hbn : ¬ n0 ≤ b) (rec : Sg → Int32 → Option Unit) (t : Nat) (ht : t < 513) (hrec : ∀ (σ : Sg) (x5 : Int32) (H : Heap) (locs : List Loc) (ls : Array Slot), LW D cy n0 s y0 y7 y12 y13 σ H locs → lv_has ls 9 [(0, .ref b), (1, .ref y0), (2, .ref y7), (3, .ref y12), (4, .ref y13), (5, .int x5)] → Sm Qf (rec σ x5) p l e room_1 s m args below meth c H locs (34 + 9 * (t + 1)) (1366 + 230 * (t + 1)) (F0 m 28 ls [])) (σ : Sg) (x5 : Int32) (H : Heap) (locs : List Loc) (ls : Array Slot) (hw : LW D cy n0 s y0 y7 y12 y13 σ H locs) (hl : lv_has ls 9 [(0, .ref b), (1, .ref y0), (2, .ref y7), (3, .ref y12), (4, .ref y13), (5, .int x5)]) : Sm Qf (f_law_32 N xs rec σ x5) p l e room_1 s m args below meth c H locs (34 + 9 * t) (1366 + 230 * t) (F0 m 1337 ls []) := by
  unfold f_law_32
  refine s_aload_n C0 dL_law_1337 rfl (lv_at hl 1 rfl) ?_
  refine s_aload C0 dL_law_1338 (lv_at hl 4 rfl) ?_
  refine l_H (As := (fun ad => [.ref (ad 0 0), .ref (ad 13 0)])) (rest := []) C0 hw (fun ad nT nO => c_L_meanHardness C0.2.2.2.2.2.2 _) (qc167 C0.1.2.2.2.2 ⟨Nat.le_of_ble_eq_true rfl, Nat.le_of_ble_eq_true rfl⟩) (fun _ => rfl) hl.1 (fun ad e0 e12 e13 => by simp [e0, e13]) (lv_room (Nat.le_of_ble_eq_true rfl)) dL_law_1340 ⟨by show _ ≤ 603072; omega, by show _ ≤ 7231594; omega⟩ (fun r65 H locs _ hw => ?_)
  refine s_istore (lv' := [(6, .int r65.1), (0, .ref b), (1, .ref y0), (2, .ref y7), (3, .ref y12), (4, .ref y13), (5, .int x5)]) C0 dL_law_1343 hl (by decide) rfl (fun ls hl => ?_)
  refine s_aload_n C0 dL_law_1345 rfl (lv_at hl 3 rfl) ?_
  refine l_V (vv := vD) (As := []) (rest := []) (kd := 7) (ci := 4) C0 hw (Or.inr ⟨rfl, rfl, rfl⟩) rfl (fun ad nT nO => c_X4_meanHardness C0.2.2.2.2.2.2 _) (qc168 C0.1.2.2.2.2 ⟨Nat.le_of_ble_eq_true rfl, Nat.le_of_ble_eq_true rfl⟩) rfl hl.1 rfl (lv_room (Nat.le_of_ble_eq_true rfl)) dL_law_1346 ⟨by show _ ≤ 603072; omega, by show _ ≤ 7231594; omega⟩ (fun r66 H locs _ hw => ?_)
  refine s_dstore (lv' := [(7, .double r66.1), (6, .int r65.1), (0, .ref b), (1, .ref y0), (2, .ref y7), (3, .ref y12), (4, .ref y13), (5, .int x5)]) C0 dL_law_1349 hl (by decide) rfl (fun ls hl => ?_)
  refine s_goto (tgt := 1381) C0 dL_law_1351 (by decide) ?_
  refine s_iinc (k := 7) (v := (x5 + 5)) (lv' := [(5, .int (x5 + 5)), (7, .double r66.1), (6, .int r65.1), (0, .ref b), (1, .ref y0), (2, .ref y7), (3, .ref y12), (4, .ref y13)]) C0 dL_law_1381 hl rfl rfl (by decide) rfl (fun ls hl => ?_)
  refine s_goto (tgt := 28) C0 dL_law_1384 (by decide) ?_
  refine s_widen (k := 34 + 9 * (t + 1)) (n := 1366 + 230 * (t + 1)) (by omega) (by omega) ?_
  exact hrec r66.2 (x5 + 5) _ _ _ hw (lv_sub hl [3, 4, 5, 6, 7, 0] rfl)
def f_law_33 (N : Nat) (xs : Nat → Int32) (rec : Sg → Int32 → Option Unit) (σ : Sg) (x5 : Int32) : Option Unit :=
  ((f_X3_checksum σ).bind (fun r67 => ((f_X4_checksum r67.2).bind (fun r68 => (if ((lg_cmp r67.1 r68.1) : Int32) = (0 : Int32) then (rec r68.2 (x5 + 5)) else none)))))
set_option maxRecDepth 100000 in
set_option maxHeartbeats 8000000 in
theorem b_law_33 (C0 : Cx p l s m args meth c cL_law 9 RL D cy n0) (hX : va_X b N xs s s.heap) (hbl : b < s.heap.size) (hbn : ¬ n0 ≤ b) (rec : Sg → Int32 → Option Unit) (t : Nat) (ht : t < 513) (hrec : ∀ (σ : Sg) (x5 : Int32) (H : Heap) (locs : List Loc) (ls : Array Slot), LW D cy n0 s y0 y7 y12 y13 σ H locs → lv_has ls 9 [(0, .ref b), (1, .ref y0), (2, .ref y7), (3, .ref y12), (4, .ref y13), (5, .int x5)] → Sm Qf (rec σ x5) p l e room_1 s m args below meth c H locs (34 + 9 * (t + 1)) (1366 + 230 * (t + 1)) (F0 m 28 ls [])) (σ : Sg) (x5 : Int32) (H : Heap) (locs : List Loc) (ls : Array Slot) (hw : LW D cy n0 s y0 y7 y12 y13 σ H locs) (hl : lv_has ls 9 [(0, .ref b), (1, .ref y0), (2, .ref y7), (3, .ref y12), (4, .ref y13), (5, .int x5)]) : Sm Qf (f_law_33 N xs rec σ x5) p l e room_1 s m args below meth c H locs (34 + 9 * t) (1366 + 230 * t) (F0 m 1354 ls []) := by
  unfold f_law_33
  refine s_aload_n C0 dL_law_1354 rfl (lv_at hl 1 rfl) ?_
  refine l_V (vv := vJ) (As := []) (rest := []) (kd := 0) (ci := 3) C0 hw (Or.inl ⟨rfl, rfl, rfl⟩) rfl (fun ad nT nO => c_X3_checksum C0.2.2.2.2.2.2 _) (qc169 C0.1.2.2.2.2 ⟨Nat.le_of_ble_eq_true rfl, Nat.le_of_ble_eq_true rfl⟩) rfl hl.1 rfl (lv_room (Nat.le_of_ble_eq_true rfl)) dL_law_1355 ⟨by show _ ≤ 603072; omega, by show _ ≤ 7231594; omega⟩ (fun r67 H locs _ hw => ?_)
  refine s_aload_n C0 dL_law_1358 rfl (lv_at hl 2 rfl) ?_
  refine l_V (vv := vJ) (As := []) (rest := [.long r67.1]) (kd := 7) (ci := 4) C0 hw (Or.inr ⟨rfl, rfl, rfl⟩) rfl (fun ad nT nO => c_X4_checksum C0.2.2.2.2.2.2 _) (qc170 C0.1.2.2.2.2 ⟨Nat.le_of_ble_eq_true rfl, Nat.le_of_ble_eq_true rfl⟩) rfl hl.1 rfl (lv_room (Nat.le_of_ble_eq_true rfl)) dL_law_1359 ⟨by show _ ≤ 603072; omega, by show _ ≤ 7231594; omega⟩ (fun r68 H locs _ hw => ?_)
  refine s_lcmp C0 dL_law_1362 ?_
  refine s_if_eq (tgt := 1381) C0 dL_law_1363 (by decide) (fun _ => ?_) (fun _ => ?_)
  · refine s_iinc (k := 5) (v := (x5 + 5)) (lv' := [(5, .int (x5 + 5)), (0, .ref b), (1, .ref y0), (2, .ref y7), (3, .ref y12), (4, .ref y13)]) C0 dL_law_1381 hl rfl rfl (by decide) rfl (fun ls hl => ?_)
    refine s_goto (tgt := 28) C0 dL_law_1384 (by decide) ?_
    refine s_widen (k := 34 + 9 * (t + 1)) (n := 1366 + 230 * (t + 1)) (by omega) (by omega) ?_
    exact hrec r68.2 (x5 + 5) _ _ _ hw (lv_sub hl [1, 2, 3, 4, 5, 0] rfl)
  · exact fun _ h => by cases h
def f_law_34 (N : Nat) (xs : Nat → Int32) (rec : Sg → Int32 → Option Unit) (σ : Sg) (x5 : Int32) : Option Unit :=
  ((f_X3_isSound σ).bind (fun r69 => ((f_X4_isSound r69.2).bind (fun r70 => (rec r70.2 (x5 + 5))))))
set_option maxRecDepth 100000 in
set_option maxHeartbeats 8000000 in
theorem b_law_34 (C0 : Cx p l s m args meth c cL_law 9 RL D cy n0) (hX : va_X b N xs s s.heap) (hbl : b < s.heap.size) (hbn : ¬ n0 ≤ b) (rec : Sg → Int32 → Option Unit) (t : Nat) (ht : t < 513) (hrec : ∀ (σ : Sg) (x5 : Int32) (H : Heap) (locs : List Loc) (ls : Array Slot), LW D cy n0 s y0 y7 y12 y13 σ H locs → lv_has ls 9 [(0, .ref b), (1, .ref y0), (2, .ref y7), (3, .ref y12), (4, .ref y13), (5, .int x5)] → Sm Qf (rec σ x5) p l e room_1 s m args below meth c H locs (34 + 9 * (t + 1)) (1366 + 230 * (t + 1)) (F0 m 28 ls [])) (σ : Sg) (x5 : Int32) (H : Heap) (locs : List Loc) (ls : Array Slot) (hw : LW D cy n0 s y0 y7 y12 y13 σ H locs) (hl : lv_has ls 9 [(0, .ref b), (1, .ref y0), (2, .ref y7), (3, .ref y12), (4, .ref y13), (5, .int x5)]) : Sm Qf (f_law_34 N xs rec σ x5) p l e room_1 s m args below meth c H locs (34 + 9 * t) (1366 + 230 * t) (F0 m 1368 ls []) := by
  unfold f_law_34
  refine s_aload_n C0 dL_law_1368 rfl (lv_at hl 1 rfl) ?_
  refine l_V (vv := vI) (As := []) (rest := []) (kd := 0) (ci := 3) C0 hw (Or.inl ⟨rfl, rfl, rfl⟩) rfl (fun ad nT nO => c_X3_isSound C0.2.2.2.2.2.2 _) (qc171 C0.1.2.2.2.2 ⟨Nat.le_of_ble_eq_true rfl, Nat.le_of_ble_eq_true rfl⟩) rfl hl.1 rfl (lv_room (Nat.le_of_ble_eq_true rfl)) dL_law_1369 ⟨by show _ ≤ 603072; omega, by show _ ≤ 7231594; omega⟩ (fun r69 H locs _ hw => ?_)
  refine s_pop C0 dL_law_1372 rfl ?_
  refine s_aload_n C0 dL_law_1373 rfl (lv_at hl 2 rfl) ?_
  refine l_V (vv := vI) (As := []) (rest := []) (kd := 7) (ci := 4) C0 hw (Or.inr ⟨rfl, rfl, rfl⟩) rfl (fun ad nT nO => c_X4_isSound C0.2.2.2.2.2.2 _) (qc172 C0.1.2.2.2.2 ⟨Nat.le_of_ble_eq_true rfl, Nat.le_of_ble_eq_true rfl⟩) rfl hl.1 rfl (lv_room (Nat.le_of_ble_eq_true rfl)) dL_law_1374 ⟨by show _ ≤ 603072; omega, by show _ ≤ 7231594; omega⟩ (fun r70 H locs _ hw => ?_)
  refine s_pop C0 dL_law_1377 rfl ?_
  refine s_goto (tgt := 1381) C0 dL_law_1378 (by decide) ?_
  refine s_iinc (k := 5) (v := (x5 + 5)) (lv' := [(5, .int (x5 + 5)), (0, .ref b), (1, .ref y0), (2, .ref y7), (3, .ref y12), (4, .ref y13)]) C0 dL_law_1381 hl rfl rfl (by decide) rfl (fun ls hl => ?_)
  refine s_goto (tgt := 28) C0 dL_law_1384 (by decide) ?_
  refine s_widen (k := 34 + 9 * (t + 1)) (n := 1366 + 230 * (t + 1)) (by omega) (by omega) ?_
  exact hrec r70.2 (x5 + 5) _ _ _ hw (lv_sub hl [1, 2, 3, 4, 5, 0] rfl)
def f_law_sw (N : Nat) (xs : Nat → Int32) (rec : Sg → Int32 → Option Unit) (σ : Sg) (x5 v : Int32) : Option Unit :=
  if v.toInt < 0 ∨ 34 < v.toInt then rec σ (x5 + 5) else if v.toInt = 0 then f_law_0 N xs rec σ x5 else if v.toInt = 1 then f_law_1 N xs rec σ x5 else if v.toInt = 2 then f_law_2 N xs rec σ x5 else if v.toInt = 3 then f_law_3 N xs rec σ x5 else if v.toInt = 4 then f_law_4 N xs rec σ x5 else if v.toInt = 5 then f_law_5 N xs rec σ x5 else if v.toInt = 6 then f_law_6 N xs rec σ x5 else if v.toInt = 7 then f_law_7 N xs rec σ x5 else if v.toInt = 8 then f_law_8 N xs rec σ x5 else if v.toInt = 9 then f_law_9 N xs rec σ x5 else if v.toInt = 10 then f_law_10 N xs rec σ x5 else if v.toInt = 11 then f_law_11 N xs rec σ x5 else if v.toInt = 12 then f_law_12 N xs rec σ x5 else if v.toInt = 13 then f_law_13 N xs rec σ x5 else if v.toInt = 14 then f_law_14 N xs rec σ x5 else if v.toInt = 15 then f_law_15 N xs rec σ x5 else if v.toInt = 16 then f_law_16 N xs rec σ x5 else if v.toInt = 17 then f_law_17 N xs rec σ x5 else if v.toInt = 18 then f_law_18 N xs rec σ x5 else if v.toInt = 19 then f_law_19 N xs rec σ x5 else if v.toInt = 20 then f_law_20 N xs rec σ x5 else if v.toInt = 21 then f_law_21 N xs rec σ x5 else if v.toInt = 22 then f_law_22 N xs rec σ x5 else if v.toInt = 23 then f_law_23 N xs rec σ x5 else if v.toInt = 24 then f_law_24 N xs rec σ x5 else if v.toInt = 25 then f_law_25 N xs rec σ x5 else if v.toInt = 26 then f_law_26 N xs rec σ x5 else if v.toInt = 27 then f_law_27 N xs rec σ x5 else if v.toInt = 28 then f_law_28 N xs rec σ x5 else if v.toInt = 29 then f_law_29 N xs rec σ x5 else if v.toInt = 30 then f_law_30 N xs rec σ x5 else if v.toInt = 31 then f_law_31 N xs rec σ x5 else if v.toInt = 32 then f_law_32 N xs rec σ x5 else if v.toInt = 33 then f_law_33 N xs rec σ x5 else if v.toInt = 34 then f_law_34 N xs rec σ x5 else none
set_option maxRecDepth 100000 in
set_option maxHeartbeats 8000000 in
theorem b_law_sw (C0 : Cx p l s m args meth c cL_law 9 RL D cy n0) (hX : va_X b N xs s s.heap) (hbl : b < s.heap.size) (hbn : ¬ n0 ≤ b) (rec : Sg → Int32 → Option Unit) (t : Nat) (ht : t < 513) (hrec : ∀ (σ : Sg) (x5 : Int32) (H : Heap) (locs : List Loc) (ls : Array Slot), LW D cy n0 s y0 y7 y12 y13 σ H locs → lv_has ls 9 [(0, .ref b), (1, .ref y0), (2, .ref y7), (3, .ref y12), (4, .ref y13), (5, .int x5)] → Sm Qf (rec σ x5) p l e room_1 s m args below meth c H locs (34 + 9 * (t + 1)) (1366 + 230 * (t + 1)) (F0 m 28 ls [])) (σ : Sg) (x5 : Int32) (H : Heap) (locs : List Loc) (ls : Array Slot) (hw : LW D cy n0 s y0 y7 y12 y13 σ H locs) (hl : lv_has ls 9 [(0, .ref b), (1, .ref y0), (2, .ref y7), (3, .ref y12), (4, .ref y13), (5, .int x5)]) (v : Int32) : Sm Qf (f_law_sw N xs rec σ x5 v) p l e room_1 s m args below meth c H locs (34 + 9 * t) (1366 + 230 * t) (F0 m 44 ls [.int v]) := by
  intro r h
  unfold f_law_sw at h
  by_cases hv : v.toInt < 0 ∨ 34 < v.toInt
  · rw [if_pos hv] at h
    refine lv_tableOut (tgt := 1381) C0.1.1 C0.1.2.1 dL_law_44 hv (by decide) ?_
    refine (show Sm Qf (rec σ (x5 + 5)) p l e room_1 s m args below meth c H locs (34 + 9 * t) (1366 + 230 * t) (F0 m 1381 ls []) from ?_) r h
    refine s_iinc (k := 5) (v := (x5 + 5)) (lv' := [(5, .int (x5 + 5)), (0, .ref b), (1, .ref y0), (2, .ref y7), (3, .ref y12), (4, .ref y13)]) C0 dL_law_1381 hl rfl rfl (by decide) rfl (fun ls hl => ?_)
    refine s_goto (tgt := 28) C0 dL_law_1384 (by decide) ?_
    refine s_widen (k := 34 + 9 * (t + 1)) (n := 1366 + 230 * (t + 1)) (by omega) (by omega) ?_
    exact hrec σ (x5 + 5) _ _ _ hw (lv_sub hl [1, 2, 3, 4, 5, 0] rfl)
  rw [if_neg hv] at h
  have h1 : ¬ v.toInt < 0 := fun q => hv (Or.inl q)
  have h2 : ¬ 34 < v.toInt := fun q => hv (Or.inr q)
  by_cases e0 : v.toInt = 0
  · rw [if_pos e0] at h
    refine lv_tableIn (off := 156) (tgt := 200) C0.1.1 C0.1.2.1 dL_law_44 h1 h2 (by rw [e0]; rfl) (by decide) ?_
    exact b_law_0 C0 hX hbl hbn rec t ht hrec σ x5 H locs ls hw hl r h
  rw [if_neg e0] at h
  by_cases e1 : v.toInt = 1
  · rw [if_pos e1] at h
    refine lv_tableIn (off := 222) (tgt := 266) C0.1.1 C0.1.2.1 dL_law_44 h1 h2 (by rw [e1]; rfl) (by decide) ?_
    exact b_law_1 C0 hX hbl hbn rec t ht hrec σ x5 H locs ls hw hl r h
  rw [if_neg e1] at h
  by_cases e2 : v.toInt = 2
  · rw [if_pos e2] at h
    refine lv_tableIn (off := 276) (tgt := 320) C0.1.1 C0.1.2.1 dL_law_44 h1 h2 (by rw [e2]; rfl) (by decide) ?_
    exact b_law_2 C0 hX hbl hbn rec t ht hrec σ x5 H locs ls hw hl r h
  rw [if_neg e2] at h
  by_cases e3 : v.toInt = 3
  · rw [if_pos e3] at h
    refine lv_tableIn (off := 304) (tgt := 348) C0.1.1 C0.1.2.1 dL_law_44 h1 h2 (by rw [e3]; rfl) (by decide) ?_
    exact b_law_3 C0 hX hbl hbn rec t ht hrec σ x5 H locs ls hw hl r h
  rw [if_neg e3] at h
  by_cases e4 : v.toInt = 4
  · rw [if_pos e4] at h
    refine lv_tableIn (off := 332) (tgt := 376) C0.1.1 C0.1.2.1 dL_law_44 h1 h2 (by rw [e4]; rfl) (by decide) ?_
    exact b_law_4 C0 hX hbl hbn rec t ht hrec σ x5 H locs ls hw hl r h
  rw [if_neg e4] at h
  by_cases e5 : v.toInt = 5
  · rw [if_pos e5] at h
    refine lv_tableIn (off := 372) (tgt := 416) C0.1.1 C0.1.2.1 dL_law_44 h1 h2 (by rw [e5]; rfl) (by decide) ?_
    exact b_law_5 C0 hX hbl hbn rec t ht hrec σ x5 H locs ls hw hl r h
  rw [if_neg e5] at h
  by_cases e6 : v.toInt = 6
  · rw [if_pos e6] at h
    refine lv_tableIn (off := 412) (tgt := 456) C0.1.1 C0.1.2.1 dL_law_44 h1 h2 (by rw [e6]; rfl) (by decide) ?_
    exact b_law_6 C0 hX hbl hbn rec t ht hrec σ x5 H locs ls hw hl r h
  rw [if_neg e6] at h
  by_cases e7 : v.toInt = 7
  · rw [if_pos e7] at h
    refine lv_tableIn (off := 452) (tgt := 496) C0.1.1 C0.1.2.1 dL_law_44 h1 h2 (by rw [e7]; rfl) (by decide) ?_
    exact b_law_7 C0 hX hbl hbn rec t ht hrec σ x5 H locs ls hw hl r h
  rw [if_neg e7] at h
  by_cases e8 : v.toInt = 8
  · rw [if_pos e8] at h
    refine lv_tableIn (off := 480) (tgt := 524) C0.1.1 C0.1.2.1 dL_law_44 h1 h2 (by rw [e8]; rfl) (by decide) ?_
    exact b_law_8 C0 hX hbl hbn rec t ht hrec σ x5 H locs ls hw hl r h
  rw [if_neg e8] at h
  by_cases e9 : v.toInt = 9
  · rw [if_pos e9] at h
    refine lv_tableIn (off := 520) (tgt := 564) C0.1.1 C0.1.2.1 dL_law_44 h1 h2 (by rw [e9]; rfl) (by decide) ?_
    exact b_law_9 C0 hX hbl hbn rec t ht hrec σ x5 H locs ls hw hl r h
  rw [if_neg e9] at h
  by_cases e10 : v.toInt = 10
  · rw [if_pos e10] at h
    refine lv_tableIn (off := 548) (tgt := 592) C0.1.1 C0.1.2.1 dL_law_44 h1 h2 (by rw [e10]; rfl) (by decide) ?_
    exact b_law_10 C0 hX hbl hbn rec t ht hrec σ x5 H locs ls hw hl r h
  rw [if_neg e10] at h
  by_cases e11 : v.toInt = 11
  · rw [if_pos e11] at h
    refine lv_tableIn (off := 576) (tgt := 620) C0.1.1 C0.1.2.1 dL_law_44 h1 h2 (by rw [e11]; rfl) (by decide) ?_
    exact b_law_11 C0 hX hbl hbn rec t ht hrec σ x5 H locs ls hw hl r h
  rw [if_neg e11] at h
  by_cases e12 : v.toInt = 12
  · rw [if_pos e12] at h
    refine lv_tableIn (off := 604) (tgt := 648) C0.1.1 C0.1.2.1 dL_law_44 h1 h2 (by rw [e12]; rfl) (by decide) ?_
    exact b_law_12 C0 hX hbl hbn rec t ht hrec σ x5 H locs ls hw hl r h
  rw [if_neg e12] at h
  by_cases e13 : v.toInt = 13
  · rw [if_pos e13] at h
    refine lv_tableIn (off := 632) (tgt := 676) C0.1.1 C0.1.2.1 dL_law_44 h1 h2 (by rw [e13]; rfl) (by decide) ?_
    exact b_law_13 C0 hX hbl hbn rec t ht hrec σ x5 H locs ls hw hl r h
  rw [if_neg e13] at h
  by_cases e14 : v.toInt = 14
  · rw [if_pos e14] at h
    refine lv_tableIn (off := 686) (tgt := 730) C0.1.1 C0.1.2.1 dL_law_44 h1 h2 (by rw [e14]; rfl) (by decide) ?_
    exact b_law_14 C0 hX hbl hbn rec t ht hrec σ x5 H locs ls hw hl r h
  rw [if_neg e14] at h
  by_cases e15 : v.toInt = 15
  · rw [if_pos e15] at h
    refine lv_tableIn (off := 714) (tgt := 758) C0.1.1 C0.1.2.1 dL_law_44 h1 h2 (by rw [e15]; rfl) (by decide) ?_
    exact b_law_15 C0 hX hbl hbn rec t ht hrec σ x5 H locs ls hw hl r h
  rw [if_neg e15] at h
  by_cases e16 : v.toInt = 16
  · rw [if_pos e16] at h
    refine lv_tableIn (off := 742) (tgt := 786) C0.1.1 C0.1.2.1 dL_law_44 h1 h2 (by rw [e16]; rfl) (by decide) ?_
    exact b_law_16 C0 hX hbl hbn rec t ht hrec σ x5 H locs ls hw hl r h
  rw [if_neg e16] at h
  by_cases e17 : v.toInt = 17
  · rw [if_pos e17] at h
    refine lv_tableIn (off := 782) (tgt := 826) C0.1.1 C0.1.2.1 dL_law_44 h1 h2 (by rw [e17]; rfl) (by decide) ?_
    exact b_law_17 C0 hX hbl hbn rec t ht hrec σ x5 H locs ls hw hl r h
  rw [if_neg e17] at h
  by_cases e18 : v.toInt = 18
  · rw [if_pos e18] at h
    refine lv_tableIn (off := 822) (tgt := 866) C0.1.1 C0.1.2.1 dL_law_44 h1 h2 (by rw [e18]; rfl) (by decide) ?_
    exact b_law_18 C0 hX hbl hbn rec t ht hrec σ x5 H locs ls hw hl r h
  rw [if_neg e18] at h
  by_cases e19 : v.toInt = 19
  · rw [if_pos e19] at h
    refine lv_tableIn (off := 850) (tgt := 894) C0.1.1 C0.1.2.1 dL_law_44 h1 h2 (by rw [e19]; rfl) (by decide) ?_
    exact b_law_19 C0 hX hbl hbn rec t ht hrec σ x5 H locs ls hw hl r h
  rw [if_neg e19] at h
  by_cases e20 : v.toInt = 20
  · rw [if_pos e20] at h
    refine lv_tableIn (off := 902) (tgt := 946) C0.1.1 C0.1.2.1 dL_law_44 h1 h2 (by rw [e20]; rfl) (by decide) ?_
    exact b_law_20 C0 hX hbl hbn rec t ht hrec σ x5 H locs ls hw hl r h
  rw [if_neg e20] at h
  by_cases e21 : v.toInt = 21
  · rw [if_pos e21] at h
    refine lv_tableIn (off := 930) (tgt := 974) C0.1.1 C0.1.2.1 dL_law_44 h1 h2 (by rw [e21]; rfl) (by decide) ?_
    exact b_law_21 C0 hX hbl hbn rec t ht hrec σ x5 H locs ls hw hl r h
  rw [if_neg e21] at h
  by_cases e22 : v.toInt = 22
  · rw [if_pos e22] at h
    refine lv_tableIn (off := 958) (tgt := 1002) C0.1.1 C0.1.2.1 dL_law_44 h1 h2 (by rw [e22]; rfl) (by decide) ?_
    exact b_law_22 C0 hX hbl hbn rec t ht hrec σ x5 H locs ls hw hl r h
  rw [if_neg e22] at h
  by_cases e23 : v.toInt = 23
  · rw [if_pos e23] at h
    refine lv_tableIn (off := 986) (tgt := 1030) C0.1.1 C0.1.2.1 dL_law_44 h1 h2 (by rw [e23]; rfl) (by decide) ?_
    exact b_law_23 C0 hX hbl hbn rec t ht hrec σ x5 H locs ls hw hl r h
  rw [if_neg e23] at h
  by_cases e24 : v.toInt = 24
  · rw [if_pos e24] at h
    refine lv_tableIn (off := 1014) (tgt := 1058) C0.1.1 C0.1.2.1 dL_law_44 h1 h2 (by rw [e24]; rfl) (by decide) ?_
    exact b_law_24 C0 hX hbl hbn rec t ht hrec σ x5 H locs ls hw hl r h
  rw [if_neg e24] at h
  by_cases e25 : v.toInt = 25
  · rw [if_pos e25] at h
    refine lv_tableIn (off := 1042) (tgt := 1086) C0.1.1 C0.1.2.1 dL_law_44 h1 h2 (by rw [e25]; rfl) (by decide) ?_
    exact b_law_25 C0 hX hbl hbn rec t ht hrec σ x5 H locs ls hw hl r h
  rw [if_neg e25] at h
  by_cases e26 : v.toInt = 26
  · rw [if_pos e26] at h
    refine lv_tableIn (off := 1070) (tgt := 1114) C0.1.1 C0.1.2.1 dL_law_44 h1 h2 (by rw [e26]; rfl) (by decide) ?_
    exact b_law_26 C0 hX hbl hbn rec t ht hrec σ x5 H locs ls hw hl r h
  rw [if_neg e26] at h
  by_cases e27 : v.toInt = 27
  · rw [if_pos e27] at h
    refine lv_tableIn (off := 1112) (tgt := 1156) C0.1.1 C0.1.2.1 dL_law_44 h1 h2 (by rw [e27]; rfl) (by decide) ?_
    exact b_law_27 C0 hX hbl hbn rec t ht hrec σ x5 H locs ls hw hl r h
  rw [if_neg e27] at h
  by_cases e28 : v.toInt = 28
  · rw [if_pos e28] at h
    refine lv_tableIn (off := 1168) (tgt := 1212) C0.1.1 C0.1.2.1 dL_law_44 h1 h2 (by rw [e28]; rfl) (by decide) ?_
    exact b_law_28 C0 hX hbl hbn rec t ht hrec σ x5 H locs ls hw hl r h
  rw [if_neg e28] at h
  by_cases e29 : v.toInt = 29
  · rw [if_pos e29] at h
    refine lv_tableIn (off := 1208) (tgt := 1252) C0.1.1 C0.1.2.1 dL_law_44 h1 h2 (by rw [e29]; rfl) (by decide) ?_
    exact b_law_29 C0 hX hbl hbn rec t ht hrec σ x5 H locs ls hw hl r h
  rw [if_neg e29] at h
  by_cases e30 : v.toInt = 30
  · rw [if_pos e30] at h
    refine lv_tableIn (off := 1248) (tgt := 1292) C0.1.1 C0.1.2.1 dL_law_44 h1 h2 (by rw [e30]; rfl) (by decide) ?_
    exact b_law_30 C0 hX hbl hbn rec t ht hrec σ x5 H locs ls hw hl r h
  rw [if_neg e30] at h
  by_cases e31 : v.toInt = 31
  · rw [if_pos e31] at h
    refine lv_tableIn (off := 1276) (tgt := 1320) C0.1.1 C0.1.2.1 dL_law_44 h1 h2 (by rw [e31]; rfl) (by decide) ?_
    exact b_law_31 C0 hX hbl hbn rec t ht hrec σ x5 H locs ls hw hl r h
  rw [if_neg e31] at h
  by_cases e32 : v.toInt = 32
  · rw [if_pos e32] at h
    refine lv_tableIn (off := 1293) (tgt := 1337) C0.1.1 C0.1.2.1 dL_law_44 h1 h2 (by rw [e32]; rfl) (by decide) ?_
    exact b_law_32 C0 hX hbl hbn rec t ht hrec σ x5 H locs ls hw hl r h
  rw [if_neg e32] at h
  by_cases e33 : v.toInt = 33
  · rw [if_pos e33] at h
    refine lv_tableIn (off := 1310) (tgt := 1354) C0.1.1 C0.1.2.1 dL_law_44 h1 h2 (by rw [e33]; rfl) (by decide) ?_
    exact b_law_33 C0 hX hbl hbn rec t ht hrec σ x5 H locs ls hw hl r h
  rw [if_neg e33] at h
  by_cases e34 : v.toInt = 34
  · rw [if_pos e34] at h
    refine lv_tableIn (off := 1324) (tgt := 1368) C0.1.1 C0.1.2.1 dL_law_44 h1 h2 (by rw [e34]; rfl) (by decide) ?_
    exact b_law_34 C0 hX hbl hbn rec t ht hrec σ x5 H locs ls hw hl r h
  rw [if_neg e34] at h
  cases h
def g_law (N : Nat) (xs : Nat → Int32) (rec : Sg → Int32 → Option Unit) (σ : Sg) (x5 : Int32) : Option Unit :=
  if (Int32.ofNat N - 5) < (x5 : Int32) then some () else if (x5 : Int32) < 0 ∨ N ≤ (x5 : Int32).toNatClampNeg then none else f_law_sw N xs rec σ x5 ((xs (x5 : Int32).toNatClampNeg) &&& 63)
def f_law_loop (N : Nat) (xs : Nat → Int32) : Nat → Sg → Int32 → Option Unit
  | 0 => fun _ _ => none
  | n + 1 => fun σ x5 => g_law N xs (f_law_loop N xs n) σ x5
set_option maxRecDepth 100000 in
set_option maxHeartbeats 8000000 in
theorem a_law (C0 : Cx p l s m args meth c cL_law 9 RL D cy n0) (hX : va_X b N xs s s.heap) (hbl : b < s.heap.size) (hbn : ¬ n0 ≤ b) (hend : ∀ (H : Heap) (locs : List Loc) (ls : Array Slot) (t : Nat), t ≤ 513 → va_S (fun q => n0 ≤ q) s.heap H locs → Sm Qf (some ()) p l e room_1 s m args below meth c H locs (34 + 9 * t) (1366 + 230 * t) (F0 m 1387 ls [])) (rec : Sg → Int32 → Option Unit) (t : Nat) (ht : t < 513) (hrec : ∀ (σ : Sg) (x5 : Int32) (H : Heap) (locs : List Loc) (ls : Array Slot), LW D cy n0 s y0 y7 y12 y13 σ H locs → lv_has ls 9 [(0, .ref b), (1, .ref y0), (2, .ref y7), (3, .ref y12), (4, .ref y13), (5, .int x5)] → Sm Qf (rec σ x5) p l e room_1 s m args below meth c H locs (34 + 9 * (t + 1)) (1366 + 230 * (t + 1)) (F0 m 28 ls [])) (σ : Sg) (x5 : Int32) (H : Heap) (locs : List Loc) (ls : Array Slot) (hw : LW D cy n0 s y0 y7 y12 y13 σ H locs) (hl : lv_has ls 9 [(0, .ref b), (1, .ref y0), (2, .ref y7), (3, .ref y12), (4, .ref y13), (5, .int x5)]) : Sm Qf (g_law N xs rec σ x5) p l e room_1 s m args below meth c H locs (34 + 9 * t) (1366 + 230 * t) (F0 m 28 ls []) := by
  unfold g_law
  refine s_iload C0 dL_law_28 (lv_at hl 5 rfl) ?_
  refine s_aload_n C0 dL_law_30 rfl (lv_at hl 0 rfl) ?_
  refine l_slen C0 hX hbl hbn hw dL_law_31 ?_
  refine s_iconst (v := 5) C0 dL_law_32 (by decide) ?_
  refine s_isub C0 dL_law_33 ?_
  refine s_icmp_gt (tgt := 1387) C0 dL_law_34 (by decide) (fun _ => ?_) (fun _ => ?_)
  · exact hend _ _ _ t (by omega) hw.S
  · refine s_aload_n C0 dL_law_37 rfl (lv_at hl 0 rfl) ?_
    refine s_iload C0 dL_law_38 (lv_at hl 5 rfl) ?_
    refine l_sld C0 hX hbl hbn hw dL_law_40 ?_
    refine s_bipush (v := 63) C0 dL_law_41 (by decide) ?_
    refine s_iand C0 dL_law_43 ?_
    exact b_law_sw C0 hX hbl hbn rec t ht hrec σ x5 H locs ls hw hl _
theorem b_law (C0 : Cx p l s m args meth c cL_law 9 RL D cy n0) (hX : va_X b N xs s s.heap) (hbl : b < s.heap.size) (hbn : ¬ n0 ≤ b) (hend : ∀ (H : Heap) (locs : List Loc) (ls : Array Slot) (t : Nat), t ≤ 513 → va_S (fun q => n0 ≤ q) s.heap H locs → Sm Qf (some ()) p l e room_1 s m args below meth c H locs (34 + 9 * t) (1366 + 230 * t) (F0 m 1387 ls [])) : ∀ (n t : Nat), t + n ≤ 513 → ∀ (σ : Sg) (x5 : Int32) (H : Heap) (locs : List Loc) (ls : Array Slot) (hw : LW D cy n0 s y0 y7 y12 y13 σ H locs) (hl : lv_has ls 9 [(0, .ref b), (1, .ref y0), (2, .ref y7), (3, .ref y12), (4, .ref y13), (5, .int x5)]), Sm Qf (f_law_loop N xs n σ x5) p l e room_1 s m args below meth c H locs (34 + 9 * t) (1366 + 230 * t) (F0 m 28 ls []) := by
  intro n
  induction n with
  | zero => intro t ht σ x5 H locs ls hw hl r h; cases h
  | succ n ih => intro t ht σ x5 H locs ls hw hl; exact a_law C0 hX hbl hbn hend (f_law_loop N xs n) t (by omega) (fun σ x5 H locs ls hw hl => ih (t + 1) (by omega) σ x5 H locs ls hw hl) σ x5 H locs ls hw hl
end
