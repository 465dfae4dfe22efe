theorem t693 : Cond.methodLink RL 28 yX9_fault ∈ TB := tb 693 _ (by decide +kernel) rfl
theorem t694 : Cond.instanceMethod yX9_fault ∈ TB := tb 694 _ (by decide +kernel) rfl
theorem t695 : Cond.selects RX9 yX9_fault yX9_fault ∈ TB := tb 695 _ (by decide +kernel) rfl
theorem t696 : Cond.code yX9_fault cX9_fault 2 (some .int) ∈ TB := tb 696 _ (by decide +kernel) rfl
theorem t697 : Cond.methodLink RL 32 yX9_road ∈ TB := tb 697 _ (by decide +kernel) rfl
theorem t698 : Cond.instanceMethod yX9_road ∈ TB := tb 698 _ (by decide +kernel) rfl
theorem t699 : Cond.selects RX9 yX9_road yX9_road ∈ TB := tb 699 _ (by decide +kernel) rfl
theorem t700 : Cond.code yX9_road cX9_road 3 (some .int) ∈ TB := tb 700 _ (by decide +kernel) rfl
theorem t705 : Cond.methodLink RL 37 yX9_likes ∈ TB := tb 705 _ (by decide +kernel) rfl
theorem t706 : Cond.instanceMethod yX9_likes ∈ TB := tb 706 _ (by decide +kernel) rfl
theorem t707 : Cond.selects RX9 yX9_likes yX9_likes ∈ TB := tb 707 _ (by decide +kernel) rfl
theorem t708 : Cond.code yX9_likes cX9_likes 3 (some .int) ∈ TB := tb 708 _ (by decide +kernel) rfl
theorem t714 : Cond.methodLink RL 41 yX9_wheel ∈ TB := tb 714 _ (by decide +kernel) rfl
theorem t715 : Cond.instanceMethod yX9_wheel ∈ TB := tb 715 _ (by decide +kernel) rfl
theorem t716 : Cond.selects RX9 yX9_wheel yX9_wheel ∈ TB := tb 716 _ (by decide +kernel) rfl
theorem t717 : Cond.code yX9_wheel cX9_wheel 3 (some .int) ∈ TB := tb 717 _ (by decide +kernel) rfl
theorem t722 : Cond.methodLink RL 45 yX9_cart ∈ TB := tb 722 _ (by decide +kernel) rfl
theorem t723 : Cond.instanceMethod yX9_cart ∈ TB := tb 723 _ (by decide +kernel) rfl
theorem t724 : Cond.selects RX9 yX9_cart yX9_cart ∈ TB := tb 724 _ (by decide +kernel) rfl
theorem t725 : Cond.code yX9_cart cX9_cart 3 (some .int) ∈ TB := tb 725 _ (by decide +kernel) rfl
theorem t734 : Cond.methodLink RL 49 yX9_errand ∈ TB := tb 734 _ (by decide +kernel) rfl
theorem t735 : Cond.instanceMethod yX9_errand ∈ TB := tb 735 _ (by decide +kernel) rfl
theorem t736 : Cond.selects RX9 yX9_errand yX9_errand ∈ TB := tb 736 _ (by decide +kernel) rfl
theorem t737 : Cond.code yX9_errand cX9_errand 3 (some .int) ∈ TB := tb 737 _ (by decide +kernel) rfl
theorem t742 : Cond.methodLink RL 53 yX9_roads ∈ TB := tb 742 _ (by decide +kernel) rfl
theorem t743 : Cond.instanceMethod yX9_roads ∈ TB := tb 743 _ (by decide +kernel) rfl
theorem t744 : Cond.selects RX9 yX9_roads yX9_roads ∈ TB := tb 744 _ (by decide +kernel) rfl
theorem t745 : Cond.code yX9_roads cX9_roads 2 (some .int) ∈ TB := tb 745 _ (by decide +kernel) rfl
theorem t758 : Cond.methodLink RL 57 yX9_pull ∈ TB := tb 758 _ (by decide +kernel) rfl
theorem t759 : Cond.instanceMethod yX9_pull ∈ TB := tb 759 _ (by decide +kernel) rfl
theorem t760 : Cond.selects RX9 yX9_pull yX9_pull ∈ TB := tb 760 _ (by decide +kernel) rfl
theorem t761 : Cond.code yX9_pull cX9_pull 3 (some .int) ∈ TB := tb 761 _ (by decide +kernel) rfl
theorem t766 : Cond.methodLink RL 61 yX9_takes ∈ TB := tb 766 _ (by decide +kernel) rfl
theorem t767 : Cond.instanceMethod yX9_takes ∈ TB := tb 767 _ (by decide +kernel) rfl
theorem t768 : Cond.selects RX9 yX9_takes yX9_takes ∈ TB := tb 768 _ (by decide +kernel) rfl
theorem t769 : Cond.code yX9_takes cX9_takes 3 (some .int) ∈ TB := tb 769 _ (by decide +kernel) rfl
theorem t794 : Cond.methodLink RL 65 yX9_aside ∈ TB := tb 794 _ (by decide +kernel) rfl
theorem t795 : Cond.instanceMethod yX9_aside ∈ TB := tb 795 _ (by decide +kernel) rfl
theorem t796 : Cond.selects RX9 yX9_aside yX9_aside ∈ TB := tb 796 _ (by decide +kernel) rfl
theorem t797 : Cond.code yX9_aside cX9_aside 4 (some .int) ∈ TB := tb 797 _ (by decide +kernel) rfl
theorem t798 : Cond.methodLink RL 69 yX9_argue ∈ TB := tb 798 _ (by decide +kernel) rfl
theorem t799 : Cond.instanceMethod yX9_argue ∈ TB := tb 799 _ (by decide +kernel) rfl
theorem t800 : Cond.selects RX9 yX9_argue yX9_argue ∈ TB := tb 800 _ (by decide +kernel) rfl
theorem t801 : Cond.code yX9_argue cX9_argue 6 (some .int) ∈ TB := tb 801 _ (by decide +kernel) rfl
theorem t804 : Cond.methodLink RL 73 yX9_drive ∈ TB := tb 804 _ (by decide +kernel) rfl
theorem t805 : Cond.instanceMethod yX9_drive ∈ TB := tb 805 _ (by decide +kernel) rfl
theorem t806 : Cond.selects RX9 yX9_drive yX9_drive ∈ TB := tb 806 _ (by decide +kernel) rfl
theorem t807 : Cond.code yX9_drive cX9_drive 3 (some .int) ∈ TB := tb 807 _ (by decide +kernel) rfl
theorem t846 : Cond.methodLink RL 77 yX9_swap ∈ TB := tb 846 _ (by decide +kernel) rfl
theorem t847 : Cond.instanceMethod yX9_swap ∈ TB := tb 847 _ (by decide +kernel) rfl
theorem t848 : Cond.selects RX9 yX9_swap yX9_swap ∈ TB := tb 848 _ (by decide +kernel) rfl
theorem t849 : Cond.code yX9_swap cX9_swap 3 (some .int) ∈ TB := tb 849 _ (by decide +kernel) rfl
theorem t850 : Cond.methodLink RL 81 yX9_grease ∈ TB := tb 850 _ (by decide +kernel) rfl
theorem t851 : Cond.instanceMethod yX9_grease ∈ TB := tb 851 _ (by decide +kernel) rfl
theorem t852 : Cond.selects RX9 yX9_grease yX9_grease ∈ TB := tb 852 _ (by decide +kernel) rfl
theorem t853 : Cond.code yX9_grease cX9_grease 3 (some .int) ∈ TB := tb 853 _ (by decide +kernel) rfl
theorem t854 : Cond.methodLink RL 85 yX9_undo ∈ TB := tb 854 _ (by decide +kernel) rfl
theorem t855 : Cond.instanceMethod yX9_undo ∈ TB := tb 855 _ (by decide +kernel) rfl
theorem t856 : Cond.selects RX9 yX9_undo yX9_undo ∈ TB := tb 856 _ (by decide +kernel) rfl
theorem t857 : Cond.code yX9_undo cX9_undo 1 (some .int) ∈ TB := tb 857 _ (by decide +kernel) rfl
theorem t866 : Cond.methodLink RL 89 yX9_anew ∈ TB := tb 866 _ (by decide +kernel) rfl
theorem t867 : Cond.instanceMethod yX9_anew ∈ TB := tb 867 _ (by decide +kernel) rfl
theorem t868 : Cond.selects RX9 yX9_anew yX9_anew ∈ TB := tb 868 _ (by decide +kernel) rfl
theorem t869 : Cond.code yX9_anew cX9_anew 2 (some .int) ∈ TB := tb 869 _ (by decide +kernel) rfl
theorem t870 : Cond.methodLink RL 93 yX9_goes ∈ TB := tb 870 _ (by decide +kernel) rfl
theorem t871 : Cond.instanceMethod yX9_goes ∈ TB := tb 871 _ (by decide +kernel) rfl
theorem t872 : Cond.selects RX9 yX9_goes yX9_goes ∈ TB := tb 872 _ (by decide +kernel) rfl
theorem t873 : Cond.code yX9_goes cX9_goes 4 (some .int) ∈ TB := tb 873 _ (by decide +kernel) rfl
theorem t901 : Cond.methodLink RL 97 yX9_ends ∈ TB := tb 901 _ (by decide +kernel) rfl
theorem t902 : Cond.instanceMethod yX9_ends ∈ TB := tb 902 _ (by decide +kernel) rfl
theorem t903 : Cond.selects RX9 yX9_ends yX9_ends ∈ TB := tb 903 _ (by decide +kernel) rfl
theorem t904 : Cond.code yX9_ends cX9_ends 4 (some .int) ∈ TB := tb 904 _ (by decide +kernel) rfl
theorem t905 : Cond.methodLink RL 101 yX9_ran ∈ TB := tb 905 _ (by decide +kernel) rfl
theorem t906 : Cond.instanceMethod yX9_ran ∈ TB := tb 906 _ (by decide +kernel) rfl
theorem t907 : Cond.selects RX9 yX9_ran yX9_ran ∈ TB := tb 907 _ (by decide +kernel) rfl
theorem t908 : Cond.code yX9_ran cX9_ran 4 (some .int) ∈ TB := tb 908 _ (by decide +kernel) rfl
theorem t909 : Cond.methodLink RL 105 yX9_astray ∈ TB := tb 909 _ (by decide +kernel) rfl
theorem t910 : Cond.instanceMethod yX9_astray ∈ TB := tb 910 _ (by decide +kernel) rfl
theorem t911 : Cond.selects RX9 yX9_astray yX9_astray ∈ TB := tb 911 _ (by decide +kernel) rfl
theorem t912 : Cond.code yX9_astray cX9_astray 4 (some .int) ∈ TB := tb 912 _ (by decide +kernel) rfl
theorem t913 : Cond.methodLink RL 109 yX9_worn ∈ TB := tb 913 _ (by decide +kernel) rfl
theorem t914 : Cond.instanceMethod yX9_worn ∈ TB := tb 914 _ (by decide +kernel) rfl
theorem t915 : Cond.selects RX9 yX9_worn yX9_worn ∈ TB := tb 915 _ (by decide +kernel) rfl
theorem t916 : Cond.code yX9_worn cX9_worn 4 (some .int) ∈ TB := tb 916 _ (by decide +kernel) rfl
theorem t917 : Cond.methodLink RL 113 yX9_way ∈ TB := tb 917 _ (by decide +kernel) rfl
theorem t918 : Cond.instanceMethod yX9_way ∈ TB := tb 918 _ (by decide +kernel) rfl
theorem t919 : Cond.selects RX9 yX9_way yX9_way ∈ TB := tb 919 _ (by decide +kernel) rfl
theorem t920 : Cond.code yX9_way cX9_way 3 (some .int) ∈ TB := tb 920 _ (by decide +kernel) rfl
theorem t968 : Cond.methodLink RL 117 yX9_wants ∈ TB := tb 968 _ (by decide +kernel) rfl
theorem t969 : Cond.instanceMethod yX9_wants ∈ TB := tb 969 _ (by decide +kernel) rfl
theorem t970 : Cond.selects RX9 yX9_wants yX9_wants ∈ TB := tb 970 _ (by decide +kernel) rfl
theorem t971 : Cond.code yX9_wants cX9_wants 4 (some .int) ∈ TB := tb 971 _ (by decide +kernel) rfl
theorem t972 : Cond.methodLink RL 122 yX9_reach ∈ TB := tb 972 _ (by decide +kernel) rfl
theorem t973 : Cond.instanceMethod yX9_reach ∈ TB := tb 973 _ (by decide +kernel) rfl
theorem t974 : Cond.selects RX9 yX9_reach yX9_reach ∈ TB := tb 974 _ (by decide +kernel) rfl
theorem t975 : Cond.code yX9_reach cX9_reach 4 (some .int) ∈ TB := tb 975 _ (by decide +kernel) rfl
theorem t976 : Cond.methodLink RL 126 yX9_far ∈ TB := tb 976 _ (by decide +kernel) rfl
theorem t977 : Cond.instanceMethod yX9_far ∈ TB := tb 977 _ (by decide +kernel) rfl
theorem t978 : Cond.selects RX9 yX9_far yX9_far ∈ TB := tb 978 _ (by decide +kernel) rfl
theorem t979 : Cond.code yX9_far cX9_far 3 (some .int) ∈ TB := tb 979 _ (by decide +kernel) rfl
theorem t981 : Cond.methodLink RL 130 yX9_dues ∈ TB := tb 981 _ (by decide +kernel) rfl
theorem t982 : Cond.instanceMethod yX9_dues ∈ TB := tb 982 _ (by decide +kernel) rfl
theorem t983 : Cond.selects RX9 yX9_dues yX9_dues ∈ TB := tb 983 _ (by decide +kernel) rfl
theorem t984 : Cond.code yX9_dues cX9_dues 4 (some .int) ∈ TB := tb 984 _ (by decide +kernel) rfl
theorem t985 : Cond.methodLink RL 134 yX9_choose ∈ TB := tb 985 _ (by decide +kernel) rfl
theorem t986 : Cond.instanceMethod yX9_choose ∈ TB := tb 986 _ (by decide +kernel) rfl
theorem t987 : Cond.selects RX9 yX9_choose yX9_choose ∈ TB := tb 987 _ (by decide +kernel) rfl
theorem t988 : Cond.code yX9_choose cX9_choose 3 (some .int) ∈ TB := tb 988 _ (by decide +kernel) rfl
theorem t1007 : Cond.methodLink RL 138 yX9_chosen ∈ TB := tb 1007 _ (by decide +kernel) rfl
theorem t1008 : Cond.instanceMethod yX9_chosen ∈ TB := tb 1008 _ (by decide +kernel) rfl
theorem t1009 : Cond.selects RX9 yX9_chosen yX9_chosen ∈ TB := tb 1009 _ (by decide +kernel) rfl
theorem t1010 : Cond.code yX9_chosen cX9_chosen 3 (some .int) ∈ TB := tb 1010 _ (by decide +kernel) rfl
theorem t1011 : Cond.methodLink RL 142 yX9_roams ∈ TB := tb 1011 _ (by decide +kernel) rfl
theorem t1012 : Cond.instanceMethod yX9_roams ∈ TB := tb 1012 _ (by decide +kernel) rfl
theorem t1013 : Cond.selects RX9 yX9_roams yX9_roams ∈ TB := tb 1013 _ (by decide +kernel) rfl
theorem t1014 : Cond.code yX9_roams cX9_roams 4 (some .int) ∈ TB := tb 1014 _ (by decide +kernel) rfl
theorem t1016 : Cond.methodLink RL 146 yX9_circle ∈ TB := tb 1016 _ (by decide +kernel) rfl
theorem t1017 : Cond.instanceMethod yX9_circle ∈ TB := tb 1017 _ (by decide +kernel) rfl
theorem t1018 : Cond.selects RX9 yX9_circle yX9_circle ∈ TB := tb 1018 _ (by decide +kernel) rfl
theorem t1019 : Cond.code yX9_circle cX9_circle 5 (some .int) ∈ TB := tb 1019 _ (by decide +kernel) rfl
theorem t1020 : Cond.methodLink RL 150 yX9_haunts ∈ TB := tb 1020 _ (by decide +kernel) rfl
theorem t1021 : Cond.instanceMethod yX9_haunts ∈ TB := tb 1021 _ (by decide +kernel) rfl
theorem t1022 : Cond.selects RX9 yX9_haunts yX9_haunts ∈ TB := tb 1022 _ (by decide +kernel) rfl
theorem t1023 : Cond.code yX9_haunts cX9_haunts 4 (some .int) ∈ TB := tb 1023 _ (by decide +kernel) rfl
theorem t1025 : Cond.methodLink RL 154 yX9_meet ∈ TB := tb 1025 _ (by decide +kernel) rfl
theorem t1026 : Cond.instanceMethod yX9_meet ∈ TB := tb 1026 _ (by decide +kernel) rfl
theorem t1027 : Cond.selects RX9 yX9_meet yX9_meet ∈ TB := tb 1027 _ (by decide +kernel) rfl
theorem t1028 : Cond.code yX9_meet cX9_meet 3 (some .int) ∈ TB := tb 1028 _ (by decide +kernel) rfl
theorem t1037 : Cond.methodLink RL 158 yX9_met ∈ TB := tb 1037 _ (by decide +kernel) rfl
theorem t1038 : Cond.instanceMethod yX9_met ∈ TB := tb 1038 _ (by decide +kernel) rfl
theorem t1039 : Cond.selects RX9 yX9_met yX9_met ∈ TB := tb 1039 _ (by decide +kernel) rfl
theorem t1040 : Cond.code yX9_met cX9_met 3 (some .int) ∈ TB := tb 1040 _ (by decide +kernel) rfl
theorem t1041 : Cond.methodLink RL 162 yX9_fits ∈ TB := tb 1041 _ (by decide +kernel) rfl
theorem t1042 : Cond.instanceMethod yX9_fits ∈ TB := tb 1042 _ (by decide +kernel) rfl
theorem t1043 : Cond.selects RX9 yX9_fits yX9_fits ∈ TB := tb 1043 _ (by decide +kernel) rfl
theorem t1044 : Cond.code yX9_fits cX9_fits 2 (some .int) ∈ TB := tb 1044 _ (by decide +kernel) rfl
theorem t1057 : Cond.methodLink RL 166 yX9_ask ∈ TB := tb 1057 _ (by decide +kernel) rfl
theorem t1058 : Cond.instanceMethod yX9_ask ∈ TB := tb 1058 _ (by decide +kernel) rfl
theorem t1059 : Cond.selects RX9 yX9_ask yX9_ask ∈ TB := tb 1059 _ (by decide +kernel) rfl
theorem t1060 : Cond.code yX9_ask cX9_ask 3 (some .int) ∈ TB := tb 1060 _ (by decide +kernel) rfl
theorem t1072 : Cond.methodLink RL 170 yX9_leaves ∈ TB := tb 1072 _ (by decide +kernel) rfl
theorem t1073 : Cond.instanceMethod yX9_leaves ∈ TB := tb 1073 _ (by decide +kernel) rfl
theorem t1074 : Cond.selects RX9 yX9_leaves yX9_leaves ∈ TB := tb 1074 _ (by decide +kernel) rfl
theorem t1075 : Cond.code yX9_leaves cX9_leaves 4 (some .int) ∈ TB := tb 1075 _ (by decide +kernel) rfl
theorem t1076 : Cond.methodLink RL 174 yX9_votes ∈ TB := tb 1076 _ (by decide +kernel) rfl
theorem t1077 : Cond.instanceMethod yX9_votes ∈ TB := tb 1077 _ (by decide +kernel) rfl
theorem t1078 : Cond.selects RX9 yX9_votes yX9_votes ∈ TB := tb 1078 _ (by decide +kernel) rfl
theorem t1079 : Cond.code yX9_votes cX9_votes 3 (some .int) ∈ TB := tb 1079 _ (by decide +kernel) rfl
theorem t1080 : Cond.methodLink RL 178 yX9_loved ∈ TB := tb 1080 _ (by decide +kernel) rfl
theorem t1081 : Cond.instanceMethod yX9_loved ∈ TB := tb 1081 _ (by decide +kernel) rfl
theorem t1082 : Cond.selects RX9 yX9_loved yX9_loved ∈ TB := tb 1082 _ (by decide +kernel) rfl
theorem t1083 : Cond.code yX9_loved cX9_loved 2 (some .int) ∈ TB := tb 1083 _ (by decide +kernel) rfl
theorem t1084 : Cond.methodLink RL 182 yX9_dearest ∈ TB := tb 1084 _ (by decide +kernel) rfl
theorem t1085 : Cond.instanceMethod yX9_dearest ∈ TB := tb 1085 _ (by decide +kernel) rfl
theorem t1086 : Cond.selects RX9 yX9_dearest yX9_dearest ∈ TB := tb 1086 _ (by decide +kernel) rfl
theorem t1087 : Cond.code yX9_dearest cX9_dearest 5 (some .int) ∈ TB := tb 1087 _ (by decide +kernel) rfl
theorem t1088 : Cond.methodLink RL 186 yX9_agree ∈ TB := tb 1088 _ (by decide +kernel) rfl
theorem t1089 : Cond.instanceMethod yX9_agree ∈ TB := tb 1089 _ (by decide +kernel) rfl
theorem t1090 : Cond.selects RX9 yX9_agree yX9_agree ∈ TB := tb 1090 _ (by decide +kernel) rfl
theorem t1091 : Cond.code yX9_agree cX9_agree 3 (some .int) ∈ TB := tb 1091 _ (by decide +kernel) rfl
theorem t1096 : Cond.methodLink RL 190 yX9_mate ∈ TB := tb 1096 _ (by decide +kernel) rfl
theorem t1097 : Cond.instanceMethod yX9_mate ∈ TB := tb 1097 _ (by decide +kernel) rfl
theorem t1098 : Cond.selects RX9 yX9_mate yX9_mate ∈ TB := tb 1098 _ (by decide +kernel) rfl
theorem t1099 : Cond.code yX9_mate cX9_mate 6 (some .int) ∈ TB := tb 1099 _ (by decide +kernel) rfl
theorem t1100 : Cond.methodLink RL 194 yX9_teach ∈ TB := tb 1100 _ (by decide +kernel) rfl
theorem t1101 : Cond.instanceMethod yX9_teach ∈ TB := tb 1101 _ (by decide +kernel) rfl
theorem t1102 : Cond.selects RX9 yX9_teach yX9_teach ∈ TB := tb 1102 _ (by decide +kernel) rfl
theorem t1103 : Cond.code yX9_teach cX9_teach 4 (some .int) ∈ TB := tb 1103 _ (by decide +kernel) rfl
theorem t1105 : Cond.methodLink RL 198 yX9_blind ∈ TB := tb 1105 _ (by decide +kernel) rfl
theorem t1106 : Cond.instanceMethod yX9_blind ∈ TB := tb 1106 _ (by decide +kernel) rfl
theorem t1107 : Cond.selects RX9 yX9_blind yX9_blind ∈ TB := tb 1107 _ (by decide +kernel) rfl
theorem t1108 : Cond.code yX9_blind cX9_blind 4 (some .int) ∈ TB := tb 1108 _ (by decide +kernel) rfl
theorem t1113 : Cond.methodLink RL 202 yX9_blinds ∈ TB := tb 1113 _ (by decide +kernel) rfl
theorem t1114 : Cond.instanceMethod yX9_blinds ∈ TB := tb 1114 _ (by decide +kernel) rfl
theorem t1115 : Cond.selects RX9 yX9_blinds yX9_blinds ∈ TB := tb 1115 _ (by decide +kernel) rfl
theorem t1116 : Cond.code yX9_blinds cX9_blinds 3 (some .int) ∈ TB := tb 1116 _ (by decide +kernel) rfl
theorem t1117 : Cond.methodLink RL 206 yX9_lasts ∈ TB := tb 1117 _ (by decide +kernel) rfl
theorem t1118 : Cond.instanceMethod yX9_lasts ∈ TB := tb 1118 _ (by decide +kernel) rfl
theorem t1119 : Cond.selects RX9 yX9_lasts yX9_lasts ∈ TB := tb 1119 _ (by decide +kernel) rfl
theorem t1120 : Cond.code yX9_lasts cX9_lasts 3 (some .int) ∈ TB := tb 1120 _ (by decide +kernel) rfl
theorem t1121 : Cond.methodLink RL 210 yX9_share ∈ TB := tb 1121 _ (by decide +kernel) rfl
theorem t1122 : Cond.instanceMethod yX9_share ∈ TB := tb 1122 _ (by decide +kernel) rfl
theorem t1123 : Cond.selects RX9 yX9_share yX9_share ∈ TB := tb 1123 _ (by decide +kernel) rfl
theorem t1124 : Cond.code yX9_share cX9_share 9 (some .int) ∈ TB := tb 1124 _ (by decide +kernel) rfl
theorem t1129 : Cond.methodLink RL 214 yX9_worth ∈ TB := tb 1129 _ (by decide +kernel) rfl
theorem t1130 : Cond.instanceMethod yX9_worth ∈ TB := tb 1130 _ (by decide +kernel) rfl
theorem t1131 : Cond.selects RX9 yX9_worth yX9_worth ∈ TB := tb 1131 _ (by decide +kernel) rfl
theorem t1132 : Cond.code yX9_worth cX9_worth 2 (some .int) ∈ TB := tb 1132 _ (by decide +kernel) rfl
theorem t1137 : Cond.methodLink RL 218 yX9_smiths ∈ TB := tb 1137 _ (by decide +kernel) rfl
theorem t1138 : Cond.instanceMethod yX9_smiths ∈ TB := tb 1138 _ (by decide +kernel) rfl
theorem t1139 : Cond.selects RX9 yX9_smiths yX9_smiths ∈ TB := tb 1139 _ (by decide +kernel) rfl
theorem t1140 : Cond.code yX9_smiths cX9_smiths 1 (some .int) ∈ TB := tb 1140 _ (by decide +kernel) rfl
theorem t1159 : Cond.methodLink RL 222 yX9_picks ∈ TB := tb 1159 _ (by decide +kernel) rfl
theorem t1160 : Cond.instanceMethod yX9_picks ∈ TB := tb 1160 _ (by decide +kernel) rfl
theorem t1161 : Cond.selects RX9 yX9_picks yX9_picks ∈ TB := tb 1161 _ (by decide +kernel) rfl
theorem t1162 : Cond.code yX9_picks cX9_picks 1 (some .int) ∈ TB := tb 1162 _ (by decide +kernel) rfl
theorem t1168 : Cond.methodLink RL 226 yX9_drawn ∈ TB := tb 1168 _ (by decide +kernel) rfl
theorem t1169 : Cond.instanceMethod yX9_drawn ∈ TB := tb 1169 _ (by decide +kernel) rfl
theorem t1170 : Cond.selects RX9 yX9_drawn yX9_drawn ∈ TB := tb 1170 _ (by decide +kernel) rfl
theorem t1171 : Cond.code yX9_drawn cX9_drawn 5 (some .int) ∈ TB := tb 1171 _ (by decide +kernel) rfl
theorem t1188 : Cond.methodLink RL 231 yX9_luck ∈ TB := tb 1188 _ (by decide +kernel) rfl
theorem t1189 : Cond.instanceMethod yX9_luck ∈ TB := tb 1189 _ (by decide +kernel) rfl
theorem t1190 : Cond.selects RX9 yX9_luck yX9_luck ∈ TB := tb 1190 _ (by decide +kernel) rfl
theorem t1191 : Cond.code yX9_luck cX9_luck 8 (some .int) ∈ TB := tb 1191 _ (by decide +kernel) rfl
theorem t1192 : Cond.methodLink RL 235 yX9_tell ∈ TB := tb 1192 _ (by decide +kernel) rfl
theorem t1193 : Cond.instanceMethod yX9_tell ∈ TB := tb 1193 _ (by decide +kernel) rfl
theorem t1194 : Cond.selects RX9 yX9_tell yX9_tell ∈ TB := tb 1194 _ (by decide +kernel) rfl
theorem t1195 : Cond.code yX9_tell cX9_tell 5 (some .int) ∈ TB := tb 1195 _ (by decide +kernel) rfl
theorem t1197 : Cond.methodLink RL 239 yX9_hand ∈ TB := tb 1197 _ (by decide +kernel) rfl
theorem t1198 : Cond.instanceMethod yX9_hand ∈ TB := tb 1198 _ (by decide +kernel) rfl
theorem t1199 : Cond.selects RX9 yX9_hand yX9_hand ∈ TB := tb 1199 _ (by decide +kernel) rfl
theorem t1200 : Cond.code yX9_hand cX9_hand 3 (some .int) ∈ TB := tb 1200 _ (by decide +kernel) rfl
theorem t1201 : Cond.methodLink RL 243 yX9_count ∈ TB := tb 1201 _ (by decide +kernel) rfl
theorem t1202 : Cond.instanceMethod yX9_count ∈ TB := tb 1202 _ (by decide +kernel) rfl
theorem t1203 : Cond.selects RX9 yX9_count yX9_count ∈ TB := tb 1203 _ (by decide +kernel) rfl
theorem t1204 : Cond.code yX9_count cX9_count 2 (some .int) ∈ TB := tb 1204 _ (by decide +kernel) rfl
theorem t1219 : Cond.methodLink RL 251 yX9_back ∈ TB := tb 1219 _ (by decide +kernel) rfl
theorem t1220 : Cond.instanceMethod yX9_back ∈ TB := tb 1220 _ (by decide +kernel) rfl
theorem t1221 : Cond.selects RX9 yX9_back yX9_back ∈ TB := tb 1221 _ (by decide +kernel) rfl
theorem t1222 : Cond.code yX9_back cX9_back 2 (some .int) ∈ TB := tb 1222 _ (by decide +kernel) rfl
theorem t1237 : Cond.methodLink RL 261 yX9_write ∈ TB := tb 1237 _ (by decide +kernel) rfl
theorem t1238 : Cond.instanceMethod yX9_write ∈ TB := tb 1238 _ (by decide +kernel) rfl
theorem t1239 : Cond.selects RX9 yX9_write yX9_write ∈ TB := tb 1239 _ (by decide +kernel) rfl
theorem t1240 : Cond.code yX9_write cX9_write 5 (some .int) ∈ TB := tb 1240 _ (by decide +kernel) rfl
theorem t1248 : Cond.methodLink RL 266 yX9_paste ∈ TB := tb 1248 _ (by decide +kernel) rfl
theorem t1249 : Cond.instanceMethod yX9_paste ∈ TB := tb 1249 _ (by decide +kernel) rfl
theorem t1250 : Cond.selects RX9 yX9_paste yX9_paste ∈ TB := tb 1250 _ (by decide +kernel) rfl
theorem t1251 : Cond.code yX9_paste cX9_paste 6 (some .int) ∈ TB := tb 1251 _ (by decide +kernel) rfl
theorem t1385 : Cond.methodLink RL 254 yX10_back ∈ TB := tb 1385 _ (by decide +kernel) rfl
theorem t1386 : Cond.instanceMethod yX10_back ∈ TB := tb 1386 _ (by decide +kernel) rfl
theorem t1387 : Cond.selects RX10 yX10_back yX10_back ∈ TB := tb 1387 _ (by decide +kernel) rfl
theorem t1388 : Cond.code yX10_back cX10_back 3 (some .int) ∈ TB := tb 1388 _ (by decide +kernel) rfl
theorem t1397 : Cond.methodLink RL 31 yX10_fault ∈ TB := tb 1397 _ (by decide +kernel) rfl
theorem t1398 : Cond.instanceMethod yX10_fault ∈ TB := tb 1398 _ (by decide +kernel) rfl
theorem t1399 : Cond.selects RX10 yX10_fault yX10_fault ∈ TB := tb 1399 _ (by decide +kernel) rfl
theorem t1400 : Cond.code yX10_fault cX10_fault 2 (some .int) ∈ TB := tb 1400 _ (by decide +kernel) rfl
theorem t1501 : Cond.methodLink RL 36 yX10_road ∈ TB := tb 1501 _ (by decide +kernel) rfl
theorem t1502 : Cond.instanceMethod yX10_road ∈ TB := tb 1502 _ (by decide +kernel) rfl
theorem t1503 : Cond.selects RX10 yX10_road yX10_road ∈ TB := tb 1503 _ (by decide +kernel) rfl
theorem t1504 : Cond.code yX10_road cX10_road 3 (some .int) ∈ TB := tb 1504 _ (by decide +kernel) rfl
theorem t1513 : Cond.methodLink RL 40 yX10_likes ∈ TB := tb 1513 _ (by decide +kernel) rfl
theorem t1514 : Cond.instanceMethod yX10_likes ∈ TB := tb 1514 _ (by decide +kernel) rfl
theorem t1515 : Cond.selects RX10 yX10_likes yX10_likes ∈ TB := tb 1515 _ (by decide +kernel) rfl
theorem t1516 : Cond.code yX10_likes cX10_likes 3 (some .int) ∈ TB := tb 1516 _ (by decide +kernel) rfl
theorem t1573 : Cond.methodLink RL 44 yX10_wheel ∈ TB := tb 1573 _ (by decide +kernel) rfl
theorem t1574 : Cond.instanceMethod yX10_wheel ∈ TB := tb 1574 _ (by decide +kernel) rfl
theorem t1575 : Cond.selects RX10 yX10_wheel yX10_wheel ∈ TB := tb 1575 _ (by decide +kernel) rfl
theorem t1576 : Cond.code yX10_wheel cX10_wheel 3 (some .int) ∈ TB := tb 1576 _ (by decide +kernel) rfl
theorem t1581 : Cond.methodLink RL 48 yX10_cart ∈ TB := tb 1581 _ (by decide +kernel) rfl
theorem t1582 : Cond.instanceMethod yX10_cart ∈ TB := tb 1582 _ (by decide +kernel) rfl
theorem t1583 : Cond.selects RX10 yX10_cart yX10_cart ∈ TB := tb 1583 _ (by decide +kernel) rfl
theorem t1584 : Cond.code yX10_cart cX10_cart 3 (some .int) ∈ TB := tb 1584 _ (by decide +kernel) rfl
theorem t1589 : Cond.methodLink RL 52 yX10_errand ∈ TB := tb 1589 _ (by decide +kernel) rfl
theorem t1590 : Cond.instanceMethod yX10_errand ∈ TB := tb 1590 _ (by decide +kernel) rfl
theorem t1591 : Cond.selects RX10 yX10_errand yX10_errand ∈ TB := tb 1591 _ (by decide +kernel) rfl
theorem t1592 : Cond.code yX10_errand cX10_errand 3 (some .int) ∈ TB := tb 1592 _ (by decide +kernel) rfl
theorem t1593 : Cond.methodLink RL 56 yX10_roads ∈ TB := tb 1593 _ (by decide +kernel) rfl
theorem t1594 : Cond.instanceMethod yX10_roads ∈ TB := tb 1594 _ (by decide +kernel) rfl
theorem t1595 : Cond.selects RX10 yX10_roads yX10_roads ∈ TB := tb 1595 _ (by decide +kernel) rfl
theorem t1596 : Cond.code yX10_roads cX10_roads 2 (some .int) ∈ TB := tb 1596 _ (by decide +kernel) rfl
theorem t1605 : Cond.methodLink RL 60 yX10_pull ∈ TB := tb 1605 _ (by decide +kernel) rfl
theorem t1606 : Cond.instanceMethod yX10_pull ∈ TB := tb 1606 _ (by decide +kernel) rfl
theorem t1607 : Cond.selects RX10 yX10_pull yX10_pull ∈ TB := tb 1607 _ (by decide +kernel) rfl
theorem t1608 : Cond.code yX10_pull cX10_pull 3 (some .int) ∈ TB := tb 1608 _ (by decide +kernel) rfl
theorem t1609 : Cond.methodLink RL 64 yX10_takes_ ∈ TB := tb 1609 _ (by decide +kernel) rfl
theorem t1610 : Cond.instanceMethod yX10_takes_ ∈ TB := tb 1610 _ (by decide +kernel) rfl
theorem t1611 : Cond.selects RX10 yX10_takes_ yX10_takes_ ∈ TB := tb 1611 _ (by decide +kernel) rfl
theorem t1612 : Cond.code yX10_takes_ cX10_takes_ 3 (some .int) ∈ TB := tb 1612 _ (by decide +kernel) rfl
theorem t1618 : Cond.methodLink RL 68 yX10_aside ∈ TB := tb 1618 _ (by decide +kernel) rfl
theorem t1619 : Cond.instanceMethod yX10_aside ∈ TB := tb 1619 _ (by decide +kernel) rfl
theorem t1620 : Cond.selects RX10 yX10_aside yX10_aside ∈ TB := tb 1620 _ (by decide +kernel) rfl
theorem t1621 : Cond.code yX10_aside cX10_aside 4 (some .int) ∈ TB := tb 1621 _ (by decide +kernel) rfl
theorem t1622 : Cond.methodLink RL 72 yX10_argue ∈ TB := tb 1622 _ (by decide +kernel) rfl
theorem t1623 : Cond.instanceMethod yX10_argue ∈ TB := tb 1623 _ (by decide +kernel) rfl
theorem t1624 : Cond.selects RX10 yX10_argue yX10_argue ∈ TB := tb 1624 _ (by decide +kernel) rfl
theorem t1625 : Cond.code yX10_argue cX10_argue 4 (some .int) ∈ TB := tb 1625 _ (by decide +kernel) rfl
theorem t1626 : Cond.methodLink RL 76 yX10_drive ∈ TB := tb 1626 _ (by decide +kernel) rfl
theorem t1627 : Cond.instanceMethod yX10_drive ∈ TB := tb 1627 _ (by decide +kernel) rfl
theorem t1628 : Cond.selects RX10 yX10_drive yX10_drive ∈ TB := tb 1628 _ (by decide +kernel) rfl
theorem t1629 : Cond.code yX10_drive cX10_drive 3 (some .int) ∈ TB := tb 1629 _ (by decide +kernel) rfl
theorem t1634 : Cond.methodLink RL 80 yX10_swap ∈ TB := tb 1634 _ (by decide +kernel) rfl
theorem t1635 : Cond.instanceMethod yX10_swap ∈ TB := tb 1635 _ (by decide +kernel) rfl
theorem t1636 : Cond.selects RX10 yX10_swap yX10_swap ∈ TB := tb 1636 _ (by decide +kernel) rfl
theorem t1637 : Cond.code yX10_swap cX10_swap 3 (some .int) ∈ TB := tb 1637 _ (by decide +kernel) rfl
theorem t1638 : Cond.methodLink RL 84 yX10_grease ∈ TB := tb 1638 _ (by decide +kernel) rfl
theorem t1639 : Cond.instanceMethod yX10_grease ∈ TB := tb 1639 _ (by decide +kernel) rfl
theorem t1640 : Cond.selects RX10 yX10_grease yX10_grease ∈ TB := tb 1640 _ (by decide +kernel) rfl
theorem t1641 : Cond.code yX10_grease cX10_grease 2 (some .int) ∈ TB := tb 1641 _ (by decide +kernel) rfl
theorem t1642 : Cond.methodLink RL 88 yX10_undo ∈ TB := tb 1642 _ (by decide +kernel) rfl
theorem t1643 : Cond.instanceMethod yX10_undo ∈ TB := tb 1643 _ (by decide +kernel) rfl
theorem t1644 : Cond.selects RX10 yX10_undo yX10_undo ∈ TB := tb 1644 _ (by decide +kernel) rfl
theorem t1645 : Cond.code yX10_undo cX10_undo 1 (some .int) ∈ TB := tb 1645 _ (by decide +kernel) rfl
theorem t1650 : Cond.methodLink RL 92 yX10_anew ∈ TB := tb 1650 _ (by decide +kernel) rfl
theorem t1651 : Cond.instanceMethod yX10_anew ∈ TB := tb 1651 _ (by decide +kernel) rfl
theorem t1652 : Cond.selects RX10 yX10_anew yX10_anew ∈ TB := tb 1652 _ (by decide +kernel) rfl
theorem t1653 : Cond.code yX10_anew cX10_anew 2 (some .int) ∈ TB := tb 1653 _ (by decide +kernel) rfl
theorem t1654 : Cond.methodLink RL 96 yX10_goes ∈ TB := tb 1654 _ (by decide +kernel) rfl
theorem t1655 : Cond.instanceMethod yX10_goes ∈ TB := tb 1655 _ (by decide +kernel) rfl
theorem t1656 : Cond.selects RX10 yX10_goes yX10_goes ∈ TB := tb 1656 _ (by decide +kernel) rfl
theorem t1657 : Cond.code yX10_goes cX10_goes 4 (some .int) ∈ TB := tb 1657 _ (by decide +kernel) rfl
theorem t1678 : Cond.methodLink RL 100 yX10_ends ∈ TB := tb 1678 _ (by decide +kernel) rfl
theorem t1679 : Cond.instanceMethod yX10_ends ∈ TB := tb 1679 _ (by decide +kernel) rfl
theorem t1680 : Cond.selects RX10 yX10_ends yX10_ends ∈ TB := tb 1680 _ (by decide +kernel) rfl
theorem t1681 : Cond.code yX10_ends cX10_ends 4 (some .int) ∈ TB := tb 1681 _ (by decide +kernel) rfl
theorem t1682 : Cond.methodLink RL 104 yX10_ran ∈ TB := tb 1682 _ (by decide +kernel) rfl
theorem t1683 : Cond.instanceMethod yX10_ran ∈ TB := tb 1683 _ (by decide +kernel) rfl
theorem t1684 : Cond.selects RX10 yX10_ran yX10_ran ∈ TB := tb 1684 _ (by decide +kernel) rfl
theorem t1685 : Cond.code yX10_ran cX10_ran 4 (some .int) ∈ TB := tb 1685 _ (by decide +kernel) rfl
theorem t1686 : Cond.methodLink RL 108 yX10_astray ∈ TB := tb 1686 _ (by decide +kernel) rfl
theorem t1687 : Cond.instanceMethod yX10_astray ∈ TB := tb 1687 _ (by decide +kernel) rfl
theorem t1688 : Cond.selects RX10 yX10_astray yX10_astray ∈ TB := tb 1688 _ (by decide +kernel) rfl
theorem t1689 : Cond.code yX10_astray cX10_astray 4 (some .int) ∈ TB := tb 1689 _ (by decide +kernel) rfl
theorem t1690 : Cond.methodLink RL 112 yX10_worn ∈ TB := tb 1690 _ (by decide +kernel) rfl
theorem t1691 : Cond.instanceMethod yX10_worn ∈ TB := tb 1691 _ (by decide +kernel) rfl
theorem t1692 : Cond.selects RX10 yX10_worn yX10_worn ∈ TB := tb 1692 _ (by decide +kernel) rfl
theorem t1693 : Cond.code yX10_worn cX10_worn 4 (some .int) ∈ TB := tb 1693 _ (by decide +kernel) rfl
theorem t1694 : Cond.methodLink RL 116 yX10_way ∈ TB := tb 1694 _ (by decide +kernel) rfl
theorem t1695 : Cond.instanceMethod yX10_way ∈ TB := tb 1695 _ (by decide +kernel) rfl
theorem t1696 : Cond.selects RX10 yX10_way yX10_way ∈ TB := tb 1696 _ (by decide +kernel) rfl
theorem t1697 : Cond.code yX10_way cX10_way 4 (some .int) ∈ TB := tb 1697 _ (by decide +kernel) rfl
theorem t1711 : Cond.methodLink RL 121 yX10_wants ∈ TB := tb 1711 _ (by decide +kernel) rfl
theorem t1712 : Cond.instanceMethod yX10_wants ∈ TB := tb 1712 _ (by decide +kernel) rfl
theorem t1713 : Cond.selects RX10 yX10_wants yX10_wants ∈ TB := tb 1713 _ (by decide +kernel) rfl
theorem t1714 : Cond.code yX10_wants cX10_wants 4 (some .int) ∈ TB := tb 1714 _ (by decide +kernel) rfl
theorem t1715 : Cond.methodLink RL 125 yX10_reach ∈ TB := tb 1715 _ (by decide +kernel) rfl
theorem t1716 : Cond.instanceMethod yX10_reach ∈ TB := tb 1716 _ (by decide +kernel) rfl
theorem t1717 : Cond.selects RX10 yX10_reach yX10_reach ∈ TB := tb 1717 _ (by decide +kernel) rfl
theorem t1718 : Cond.code yX10_reach cX10_reach 2 (some .int) ∈ TB := tb 1718 _ (by decide +kernel) rfl
theorem t1719 : Cond.methodLink RL 129 yX10_far ∈ TB := tb 1719 _ (by decide +kernel) rfl
theorem t1720 : Cond.instanceMethod yX10_far ∈ TB := tb 1720 _ (by decide +kernel) rfl
theorem t1721 : Cond.selects RX10 yX10_far yX10_far ∈ TB := tb 1721 _ (by decide +kernel) rfl
theorem t1722 : Cond.code yX10_far cX10_far 7 (some .int) ∈ TB := tb 1722 _ (by decide +kernel) rfl
theorem t1723 : Cond.methodLink RL 133 yX10_dues ∈ TB := tb 1723 _ (by decide +kernel) rfl
theorem t1724 : Cond.instanceMethod yX10_dues ∈ TB := tb 1724 _ (by decide +kernel) rfl
theorem t1725 : Cond.selects RX10 yX10_dues yX10_dues ∈ TB := tb 1725 _ (by decide +kernel) rfl
theorem t1726 : Cond.code yX10_dues cX10_dues 3 (some .int) ∈ TB := tb 1726 _ (by decide +kernel) rfl
theorem t1727 : Cond.methodLink RL 137 yX10_choose ∈ TB := tb 1727 _ (by decide +kernel) rfl
theorem t1728 : Cond.instanceMethod yX10_choose ∈ TB := tb 1728 _ (by decide +kernel) rfl
theorem t1729 : Cond.selects RX10 yX10_choose yX10_choose ∈ TB := tb 1729 _ (by decide +kernel) rfl
theorem t1730 : Cond.code yX10_choose cX10_choose 4 (some .int) ∈ TB := tb 1730 _ (by decide +kernel) rfl
theorem t1735 : Cond.methodLink RL 141 yX10_chosen ∈ TB := tb 1735 _ (by decide +kernel) rfl
theorem t1736 : Cond.instanceMethod yX10_chosen ∈ TB := tb 1736 _ (by decide +kernel) rfl
theorem t1737 : Cond.selects RX10 yX10_chosen yX10_chosen ∈ TB := tb 1737 _ (by decide +kernel) rfl
theorem t1738 : Cond.code yX10_chosen cX10_chosen 3 (some .int) ∈ TB := tb 1738 _ (by decide +kernel) rfl
theorem t1739 : Cond.methodLink RL 145 yX10_roams ∈ TB := tb 1739 _ (by decide +kernel) rfl
theorem t1740 : Cond.instanceMethod yX10_roams ∈ TB := tb 1740 _ (by decide +kernel) rfl
theorem t1741 : Cond.selects RX10 yX10_roams yX10_roams ∈ TB := tb 1741 _ (by decide +kernel) rfl
theorem t1742 : Cond.code yX10_roams cX10_roams 3 (some .int) ∈ TB := tb 1742 _ (by decide +kernel) rfl
theorem t1748 : Cond.methodLink RL 149 yX10_circle ∈ TB := tb 1748 _ (by decide +kernel) rfl
theorem t1749 : Cond.instanceMethod yX10_circle ∈ TB := tb 1749 _ (by decide +kernel) rfl
theorem t1750 : Cond.selects RX10 yX10_circle yX10_circle ∈ TB := tb 1750 _ (by decide +kernel) rfl
theorem t1751 : Cond.code yX10_circle cX10_circle 4 (some .int) ∈ TB := tb 1751 _ (by decide +kernel) rfl
theorem t1752 : Cond.methodLink RL 153 yX10_haunts ∈ TB := tb 1752 _ (by decide +kernel) rfl
theorem t1753 : Cond.instanceMethod yX10_haunts ∈ TB := tb 1753 _ (by decide +kernel) rfl
theorem t1754 : Cond.selects RX10 yX10_haunts yX10_haunts ∈ TB := tb 1754 _ (by decide +kernel) rfl
theorem t1755 : Cond.code yX10_haunts cX10_haunts 7 (some .int) ∈ TB := tb 1755 _ (by decide +kernel) rfl
theorem t1756 : Cond.methodLink RL 157 yX10_meet ∈ TB := tb 1756 _ (by decide +kernel) rfl
theorem t1757 : Cond.instanceMethod yX10_meet ∈ TB := tb 1757 _ (by decide +kernel) rfl
theorem t1758 : Cond.selects RX10 yX10_meet yX10_meet ∈ TB := tb 1758 _ (by decide +kernel) rfl
theorem t1759 : Cond.code yX10_meet cX10_meet 3 (some .int) ∈ TB := tb 1759 _ (by decide +kernel) rfl
theorem t1768 : Cond.methodLink RL 161 yX10_met ∈ TB := tb 1768 _ (by decide +kernel) rfl
theorem t1769 : Cond.instanceMethod yX10_met ∈ TB := tb 1769 _ (by decide +kernel) rfl
theorem t1770 : Cond.selects RX10 yX10_met yX10_met ∈ TB := tb 1770 _ (by decide +kernel) rfl
theorem t1771 : Cond.code yX10_met cX10_met 4 (some .int) ∈ TB := tb 1771 _ (by decide +kernel) rfl
theorem t1772 : Cond.methodLink RL 165 yX10_fits ∈ TB := tb 1772 _ (by decide +kernel) rfl
theorem t1773 : Cond.instanceMethod yX10_fits ∈ TB := tb 1773 _ (by decide +kernel) rfl
theorem t1774 : Cond.selects RX10 yX10_fits yX10_fits ∈ TB := tb 1774 _ (by decide +kernel) rfl
theorem t1775 : Cond.code yX10_fits cX10_fits 3 (some .int) ∈ TB := tb 1775 _ (by decide +kernel) rfl
theorem t1788 : Cond.methodLink RL 169 yX10_ask ∈ TB := tb 1788 _ (by decide +kernel) rfl
theorem t1789 : Cond.instanceMethod yX10_ask ∈ TB := tb 1789 _ (by decide +kernel) rfl
theorem t1790 : Cond.selects RX10 yX10_ask yX10_ask ∈ TB := tb 1790 _ (by decide +kernel) rfl
theorem t1791 : Cond.code yX10_ask cX10_ask 3 (some .int) ∈ TB := tb 1791 _ (by decide +kernel) rfl
theorem t1801 : Cond.methodLink RL 173 yX10_leaves ∈ TB := tb 1801 _ (by decide +kernel) rfl
theorem t1802 : Cond.instanceMethod yX10_leaves ∈ TB := tb 1802 _ (by decide +kernel) rfl
theorem t1803 : Cond.selects RX10 yX10_leaves yX10_leaves ∈ TB := tb 1803 _ (by decide +kernel) rfl
theorem t1804 : Cond.code yX10_leaves cX10_leaves 3 (some .int) ∈ TB := tb 1804 _ (by decide +kernel) rfl
theorem t1805 : Cond.methodLink RL 177 yX10_votes ∈ TB := tb 1805 _ (by decide +kernel) rfl
theorem t1806 : Cond.instanceMethod yX10_votes ∈ TB := tb 1806 _ (by decide +kernel) rfl
theorem t1807 : Cond.selects RX10 yX10_votes yX10_votes ∈ TB := tb 1807 _ (by decide +kernel) rfl
theorem t1808 : Cond.code yX10_votes cX10_votes 5 (some .int) ∈ TB := tb 1808 _ (by decide +kernel) rfl
theorem t1809 : Cond.methodLink RL 181 yX10_loved ∈ TB := tb 1809 _ (by decide +kernel) rfl
theorem t1810 : Cond.instanceMethod yX10_loved ∈ TB := tb 1810 _ (by decide +kernel) rfl
theorem t1811 : Cond.selects RX10 yX10_loved yX10_loved ∈ TB := tb 1811 _ (by decide +kernel) rfl
theorem t1812 : Cond.code yX10_loved cX10_loved 2 (some .int) ∈ TB := tb 1812 _ (by decide +kernel) rfl
theorem t1817 : Cond.methodLink RL 185 yX10_dearest ∈ TB := tb 1817 _ (by decide +kernel) rfl
theorem t1818 : Cond.instanceMethod yX10_dearest ∈ TB := tb 1818 _ (by decide +kernel) rfl
theorem t1819 : Cond.selects RX10 yX10_dearest yX10_dearest ∈ TB := tb 1819 _ (by decide +kernel) rfl
theorem t1820 : Cond.code yX10_dearest cX10_dearest 3 (some .int) ∈ TB := tb 1820 _ (by decide +kernel) rfl
theorem t1821 : Cond.methodLink RL 189 yX10_agree ∈ TB := tb 1821 _ (by decide +kernel) rfl
theorem t1822 : Cond.instanceMethod yX10_agree ∈ TB := tb 1822 _ (by decide +kernel) rfl
theorem t1823 : Cond.selects RX10 yX10_agree yX10_agree ∈ TB := tb 1823 _ (by decide +kernel) rfl
theorem t1824 : Cond.code yX10_agree cX10_agree 3 (some .int) ∈ TB := tb 1824 _ (by decide +kernel) rfl
theorem t1829 : Cond.methodLink RL 193 yX10_mate ∈ TB := tb 1829 _ (by decide +kernel) rfl
theorem t1830 : Cond.instanceMethod yX10_mate ∈ TB := tb 1830 _ (by decide +kernel) rfl
theorem t1831 : Cond.selects RX10 yX10_mate yX10_mate ∈ TB := tb 1831 _ (by decide +kernel) rfl
theorem t1832 : Cond.code yX10_mate cX10_mate 4 (some .int) ∈ TB := tb 1832 _ (by decide +kernel) rfl
theorem t1833 : Cond.methodLink RL 197 yX10_teach ∈ TB := tb 1833 _ (by decide +kernel) rfl
theorem t1834 : Cond.instanceMethod yX10_teach ∈ TB := tb 1834 _ (by decide +kernel) rfl
theorem t1835 : Cond.selects RX10 yX10_teach yX10_teach ∈ TB := tb 1835 _ (by decide +kernel) rfl
theorem t1836 : Cond.code yX10_teach cX10_teach 4 (some .int) ∈ TB := tb 1836 _ (by decide +kernel) rfl
theorem t1837 : Cond.methodLink RL 201 yX10_blind ∈ TB := tb 1837 _ (by decide +kernel) rfl
theorem t1838 : Cond.instanceMethod yX10_blind ∈ TB := tb 1838 _ (by decide +kernel) rfl
theorem t1839 : Cond.selects RX10 yX10_blind yX10_blind ∈ TB := tb 1839 _ (by decide +kernel) rfl
theorem t1840 : Cond.code yX10_blind cX10_blind 4 (some .int) ∈ TB := tb 1840 _ (by decide +kernel) rfl
theorem t1845 : Cond.methodLink RL 205 yX10_blinds ∈ TB := tb 1845 _ (by decide +kernel) rfl
theorem t1846 : Cond.instanceMethod yX10_blinds ∈ TB := tb 1846 _ (by decide +kernel) rfl
theorem t1847 : Cond.selects RX10 yX10_blinds yX10_blinds ∈ TB := tb 1847 _ (by decide +kernel) rfl
theorem t1848 : Cond.code yX10_blinds cX10_blinds 3 (some .int) ∈ TB := tb 1848 _ (by decide +kernel) rfl
theorem t1849 : Cond.methodLink RL 209 yX10_lasts ∈ TB := tb 1849 _ (by decide +kernel) rfl
theorem t1850 : Cond.instanceMethod yX10_lasts ∈ TB := tb 1850 _ (by decide +kernel) rfl
theorem t1851 : Cond.selects RX10 yX10_lasts yX10_lasts ∈ TB := tb 1851 _ (by decide +kernel) rfl
theorem t1852 : Cond.code yX10_lasts cX10_lasts 3 (some .int) ∈ TB := tb 1852 _ (by decide +kernel) rfl
theorem t1854 : Cond.methodLink RL 213 yX10_share ∈ TB := tb 1854 _ (by decide +kernel) rfl
theorem t1855 : Cond.instanceMethod yX10_share ∈ TB := tb 1855 _ (by decide +kernel) rfl
theorem t1856 : Cond.selects RX10 yX10_share yX10_share ∈ TB := tb 1856 _ (by decide +kernel) rfl
theorem t1857 : Cond.code yX10_share cX10_share 9 (some .int) ∈ TB := tb 1857 _ (by decide +kernel) rfl
theorem t1863 : Cond.methodLink RL 217 yX10_worth ∈ TB := tb 1863 _ (by decide +kernel) rfl
theorem t1864 : Cond.instanceMethod yX10_worth ∈ TB := tb 1864 _ (by decide +kernel) rfl
theorem t1865 : Cond.selects RX10 yX10_worth yX10_worth ∈ TB := tb 1865 _ (by decide +kernel) rfl
theorem t1866 : Cond.code yX10_worth cX10_worth 2 (some .int) ∈ TB := tb 1866 _ (by decide +kernel) rfl
theorem t1871 : Cond.methodLink RL 221 yX10_smiths ∈ TB := tb 1871 _ (by decide +kernel) rfl
theorem t1872 : Cond.instanceMethod yX10_smiths ∈ TB := tb 1872 _ (by decide +kernel) rfl
theorem t1873 : Cond.selects RX10 yX10_smiths yX10_smiths ∈ TB := tb 1873 _ (by decide +kernel) rfl
theorem t1874 : Cond.code yX10_smiths cX10_smiths 1 (some .int) ∈ TB := tb 1874 _ (by decide +kernel) rfl
theorem t1885 : Cond.methodLink RL 225 yX10_picks ∈ TB := tb 1885 _ (by decide +kernel) rfl
theorem t1886 : Cond.instanceMethod yX10_picks ∈ TB := tb 1886 _ (by decide +kernel) rfl
theorem t1887 : Cond.selects RX10 yX10_picks yX10_picks ∈ TB := tb 1887 _ (by decide +kernel) rfl
theorem t1888 : Cond.code yX10_picks cX10_picks 4 (some .int) ∈ TB := tb 1888 _ (by decide +kernel) rfl
theorem t1889 : Cond.methodLink RL 230 yX10_drawn ∈ TB := tb 1889 _ (by decide +kernel) rfl
theorem t1890 : Cond.instanceMethod yX10_drawn ∈ TB := tb 1890 _ (by decide +kernel) rfl
theorem t1891 : Cond.selects RX10 yX10_drawn yX10_drawn ∈ TB := tb 1891 _ (by decide +kernel) rfl
theorem t1892 : Cond.code yX10_drawn cX10_drawn 5 (some .int) ∈ TB := tb 1892 _ (by decide +kernel) rfl
theorem t1910 : Cond.methodLink RL 234 yX10_luck ∈ TB := tb 1910 _ (by decide +kernel) rfl
theorem t1911 : Cond.instanceMethod yX10_luck ∈ TB := tb 1911 _ (by decide +kernel) rfl
theorem t1912 : Cond.selects RX10 yX10_luck yX10_luck ∈ TB := tb 1912 _ (by decide +kernel) rfl
theorem t1913 : Cond.code yX10_luck cX10_luck 8 (some .int) ∈ TB := tb 1913 _ (by decide +kernel) rfl
theorem t1914 : Cond.methodLink RL 238 yX10_tell ∈ TB := tb 1914 _ (by decide +kernel) rfl
theorem t1915 : Cond.instanceMethod yX10_tell ∈ TB := tb 1915 _ (by decide +kernel) rfl
theorem t1916 : Cond.selects RX10 yX10_tell yX10_tell ∈ TB := tb 1916 _ (by decide +kernel) rfl
theorem t1917 : Cond.code yX10_tell cX10_tell 6 (some .int) ∈ TB := tb 1917 _ (by decide +kernel) rfl
theorem t1919 : Cond.methodLink RL 242 yX10_hand ∈ TB := tb 1919 _ (by decide +kernel) rfl
theorem t1920 : Cond.instanceMethod yX10_hand ∈ TB := tb 1920 _ (by decide +kernel) rfl
theorem t1921 : Cond.selects RX10 yX10_hand yX10_hand ∈ TB := tb 1921 _ (by decide +kernel) rfl
theorem t1922 : Cond.code yX10_hand cX10_hand 3 (some .int) ∈ TB := tb 1922 _ (by decide +kernel) rfl
theorem t1923 : Cond.methodLink RL 246 yX10_count ∈ TB := tb 1923 _ (by decide +kernel) rfl
theorem t1924 : Cond.instanceMethod yX10_count ∈ TB := tb 1924 _ (by decide +kernel) rfl
theorem t1925 : Cond.selects RX10 yX10_count yX10_count ∈ TB := tb 1925 _ (by decide +kernel) rfl
theorem t1926 : Cond.code yX10_count cX10_count 4 (some .int) ∈ TB := tb 1926 _ (by decide +kernel) rfl
theorem t1931 : Cond.methodLink RL 265 yX10_write ∈ TB := tb 1931 _ (by decide +kernel) rfl
theorem t1932 : Cond.instanceMethod yX10_write ∈ TB := tb 1932 _ (by decide +kernel) rfl
theorem t1933 : Cond.selects RX10 yX10_write yX10_write ∈ TB := tb 1933 _ (by decide +kernel) rfl
theorem t1934 : Cond.code yX10_write cX10_write 5 (some .int) ∈ TB := tb 1934 _ (by decide +kernel) rfl
theorem t1938 : Cond.methodLink RL 269 yX10_paste ∈ TB := tb 1938 _ (by decide +kernel) rfl
theorem t1939 : Cond.instanceMethod yX10_paste ∈ TB := tb 1939 _ (by decide +kernel) rfl
theorem t1940 : Cond.selects RX10 yX10_paste yX10_paste ∈ TB := tb 1940 _ (by decide +kernel) rfl
theorem t1941 : Cond.code yX10_paste cX10_paste 7 (some .int) ∈ TB := tb 1941 _ (by decide +kernel) rfl
theorem t1942 : Cond.constantLong RL 259 (4294967295) ∈ TB := tb 1942 _ (by decide +kernel) rfl
theorem lkL_100 : GoodIn TB (wsV RL 100 RX10 yX10_ends (.code yX10_ends cX10_ends 4 (some .int) :: TB)) := gdV t1678 t1679 t1680 t115 t1681
theorem lkL_101 : GoodIn TB (wsV RL 101 RX9 yX9_ran (.code yX9_ran cX9_ran 4 (some .int) :: TB)) := gdV t905 t906 t907 t104 t908
theorem lkL_104 : GoodIn TB (wsV RL 104 RX10 yX10_ran (.code yX10_ran cX10_ran 4 (some .int) :: TB)) := gdV t1682 t1683 t1684 t115 t1685
theorem lkL_105 : GoodIn TB (wsV RL 105 RX9 yX9_astray (.code yX9_astray cX9_astray 4 (some .int) :: TB)) := gdV t909 t910 t911 t104 t912
theorem lkL_108 : GoodIn TB (wsV RL 108 RX10 yX10_astray (.code yX10_astray cX10_astray 4 (some .int) :: TB)) := gdV t1686 t1687 t1688 t115 t1689
theorem lkL_109 : GoodIn TB (wsV RL 109 RX9 yX9_worn (.code yX9_worn cX9_worn 4 (some .int) :: TB)) := gdV t913 t914 t915 t104 t916
theorem lkL_112 : GoodIn TB (wsV RL 112 RX10 yX10_worn (.code yX10_worn cX10_worn 4 (some .int) :: TB)) := gdV t1690 t1691 t1692 t115 t1693
theorem lkL_113 : GoodIn TB (wsV RL 113 RX9 yX9_way (.code yX9_way cX9_way 3 (some .int) :: TB)) := gdV t917 t918 t919 t104 t920
theorem lkL_116 : GoodIn TB (wsV RL 116 RX10 yX10_way (.code yX10_way cX10_way 4 (some .int) :: TB)) := gdV t1694 t1695 t1696 t115 t1697
theorem lkL_117 : GoodIn TB (wsV RL 117 RX9 yX9_wants (.code yX9_wants cX9_wants 4 (some .int) :: TB)) := gdV t968 t969 t970 t104 t971
theorem lkL_121 : GoodIn TB (wsV RL 121 RX10 yX10_wants (.code yX10_wants cX10_wants 4 (some .int) :: TB)) := gdV t1711 t1712 t1713 t115 t1714
theorem lkL_122 : GoodIn TB (wsV RL 122 RX9 yX9_reach (.code yX9_reach cX9_reach 4 (some .int) :: TB)) := gdV t972 t973 t974 t104 t975
theorem lkL_125 : GoodIn TB (wsV RL 125 RX10 yX10_reach (.code yX10_reach cX10_reach 2 (some .int) :: TB)) := gdV t1715 t1716 t1717 t115 t1718
theorem lkL_126 : GoodIn TB (wsV RL 126 RX9 yX9_far (.code yX9_far cX9_far 3 (some .int) :: TB)) := gdV t976 t977 t978 t104 t979
theorem lkL_129 : GoodIn TB (wsV RL 129 RX10 yX10_far (.code yX10_far cX10_far 7 (some .int) :: TB)) := gdV t1719 t1720 t1721 t115 t1722
theorem lkL_130 : GoodIn TB (wsV RL 130 RX9 yX9_dues (.code yX9_dues cX9_dues 4 (some .int) :: TB)) := gdV t981 t982 t983 t104 t984
theorem lkL_133 : GoodIn TB (wsV RL 133 RX10 yX10_dues (.code yX10_dues cX10_dues 3 (some .int) :: TB)) := gdV t1723 t1724 t1725 t115 t1726
theorem lkL_134 : GoodIn TB (wsV RL 134 RX9 yX9_choose (.code yX9_choose cX9_choose 3 (some .int) :: TB)) := gdV t985 t986 t987 t104 t988
theorem lkL_137 : GoodIn TB (wsV RL 137 RX10 yX10_choose (.code yX10_choose cX10_choose 4 (some .int) :: TB)) := gdV t1727 t1728 t1729 t115 t1730
theorem lkL_138 : GoodIn TB (wsV RL 138 RX9 yX9_chosen (.code yX9_chosen cX9_chosen 3 (some .int) :: TB)) := gdV t1007 t1008 t1009 t104 t1010
theorem lkL_141 : GoodIn TB (wsV RL 141 RX10 yX10_chosen (.code yX10_chosen cX10_chosen 3 (some .int) :: TB)) := gdV t1735 t1736 t1737 t115 t1738
theorem lkL_142 : GoodIn TB (wsV RL 142 RX9 yX9_roams (.code yX9_roams cX9_roams 4 (some .int) :: TB)) := gdV t1011 t1012 t1013 t104 t1014
theorem lkL_145 : GoodIn TB (wsV RL 145 RX10 yX10_roams (.code yX10_roams cX10_roams 3 (some .int) :: TB)) := gdV t1739 t1740 t1741 t115 t1742
theorem lkL_146 : GoodIn TB (wsV RL 146 RX9 yX9_circle (.code yX9_circle cX9_circle 5 (some .int) :: TB)) := gdV t1016 t1017 t1018 t104 t1019
theorem lkL_149 : GoodIn TB (wsV RL 149 RX10 yX10_circle (.code yX10_circle cX10_circle 4 (some .int) :: TB)) := gdV t1748 t1749 t1750 t115 t1751
theorem lkL_150 : GoodIn TB (wsV RL 150 RX9 yX9_haunts (.code yX9_haunts cX9_haunts 4 (some .int) :: TB)) := gdV t1020 t1021 t1022 t104 t1023
theorem lkL_153 : GoodIn TB (wsV RL 153 RX10 yX10_haunts (.code yX10_haunts cX10_haunts 7 (some .int) :: TB)) := gdV t1752 t1753 t1754 t115 t1755
theorem lkL_154 : GoodIn TB (wsV RL 154 RX9 yX9_meet (.code yX9_meet cX9_meet 3 (some .int) :: TB)) := gdV t1025 t1026 t1027 t104 t1028
theorem lkL_157 : GoodIn TB (wsV RL 157 RX10 yX10_meet (.code yX10_meet cX10_meet 3 (some .int) :: TB)) := gdV t1756 t1757 t1758 t115 t1759
theorem lkL_158 : GoodIn TB (wsV RL 158 RX9 yX9_met (.code yX9_met cX9_met 3 (some .int) :: TB)) := gdV t1037 t1038 t1039 t104 t1040
theorem lkL_161 : GoodIn TB (wsV RL 161 RX10 yX10_met (.code yX10_met cX10_met 4 (some .int) :: TB)) := gdV t1768 t1769 t1770 t115 t1771
theorem lkL_162 : GoodIn TB (wsV RL 162 RX9 yX9_fits (.code yX9_fits cX9_fits 2 (some .int) :: TB)) := gdV t1041 t1042 t1043 t104 t1044
theorem lkL_165 : GoodIn TB (wsV RL 165 RX10 yX10_fits (.code yX10_fits cX10_fits 3 (some .int) :: TB)) := gdV t1772 t1773 t1774 t115 t1775
theorem lkL_166 : GoodIn TB (wsV RL 166 RX9 yX9_ask (.code yX9_ask cX9_ask 3 (some .int) :: TB)) := gdV t1057 t1058 t1059 t104 t1060
theorem lkL_169 : GoodIn TB (wsV RL 169 RX10 yX10_ask (.code yX10_ask cX10_ask 3 (some .int) :: TB)) := gdV t1788 t1789 t1790 t115 t1791
theorem lkL_170 : GoodIn TB (wsV RL 170 RX9 yX9_leaves (.code yX9_leaves cX9_leaves 4 (some .int) :: TB)) := gdV t1072 t1073 t1074 t104 t1075
theorem lkL_173 : GoodIn TB (wsV RL 173 RX10 yX10_leaves (.code yX10_leaves cX10_leaves 3 (some .int) :: TB)) := gdV t1801 t1802 t1803 t115 t1804
theorem lkL_174 : GoodIn TB (wsV RL 174 RX9 yX9_votes (.code yX9_votes cX9_votes 3 (some .int) :: TB)) := gdV t1076 t1077 t1078 t104 t1079
theorem lkL_177 : GoodIn TB (wsV RL 177 RX10 yX10_votes (.code yX10_votes cX10_votes 5 (some .int) :: TB)) := gdV t1805 t1806 t1807 t115 t1808
theorem lkL_178 : GoodIn TB (wsV RL 178 RX9 yX9_loved (.code yX9_loved cX9_loved 2 (some .int) :: TB)) := gdV t1080 t1081 t1082 t104 t1083
theorem lkL_181 : GoodIn TB (wsV RL 181 RX10 yX10_loved (.code yX10_loved cX10_loved 2 (some .int) :: TB)) := gdV t1809 t1810 t1811 t115 t1812
theorem lkL_182 : GoodIn TB (wsV RL 182 RX9 yX9_dearest (.code yX9_dearest cX9_dearest 5 (some .int) :: TB)) := gdV t1084 t1085 t1086 t104 t1087
theorem lkL_185 : GoodIn TB (wsV RL 185 RX10 yX10_dearest (.code yX10_dearest cX10_dearest 3 (some .int) :: TB)) := gdV t1817 t1818 t1819 t115 t1820
theorem lkL_186 : GoodIn TB (wsV RL 186 RX9 yX9_agree (.code yX9_agree cX9_agree 3 (some .int) :: TB)) := gdV t1088 t1089 t1090 t104 t1091
theorem lkL_189 : GoodIn TB (wsV RL 189 RX10 yX10_agree (.code yX10_agree cX10_agree 3 (some .int) :: TB)) := gdV t1821 t1822 t1823 t115 t1824
theorem lkL_190 : GoodIn TB (wsV RL 190 RX9 yX9_mate (.code yX9_mate cX9_mate 6 (some .int) :: TB)) := gdV t1096 t1097 t1098 t104 t1099
theorem lkL_193 : GoodIn TB (wsV RL 193 RX10 yX10_mate (.code yX10_mate cX10_mate 4 (some .int) :: TB)) := gdV t1829 t1830 t1831 t115 t1832
theorem lkL_194 : GoodIn TB (wsV RL 194 RX9 yX9_teach (.code yX9_teach cX9_teach 4 (some .int) :: TB)) := gdV t1100 t1101 t1102 t104 t1103
theorem lkL_197 : GoodIn TB (wsV RL 197 RX10 yX10_teach (.code yX10_teach cX10_teach 4 (some .int) :: TB)) := gdV t1833 t1834 t1835 t115 t1836
theorem lkL_198 : GoodIn TB (wsV RL 198 RX9 yX9_blind (.code yX9_blind cX9_blind 4 (some .int) :: TB)) := gdV t1105 t1106 t1107 t104 t1108
theorem lkL_201 : GoodIn TB (wsV RL 201 RX10 yX10_blind (.code yX10_blind cX10_blind 4 (some .int) :: TB)) := gdV t1837 t1838 t1839 t115 t1840
theorem lkL_202 : GoodIn TB (wsV RL 202 RX9 yX9_blinds (.code yX9_blinds cX9_blinds 3 (some .int) :: TB)) := gdV t1113 t1114 t1115 t104 t1116
theorem lkL_205 : GoodIn TB (wsV RL 205 RX10 yX10_blinds (.code yX10_blinds cX10_blinds 3 (some .int) :: TB)) := gdV t1845 t1846 t1847 t115 t1848
theorem lkL_206 : GoodIn TB (wsV RL 206 RX9 yX9_lasts (.code yX9_lasts cX9_lasts 3 (some .int) :: TB)) := gdV t1117 t1118 t1119 t104 t1120
theorem lkL_209 : GoodIn TB (wsV RL 209 RX10 yX10_lasts (.code yX10_lasts cX10_lasts 3 (some .int) :: TB)) := gdV t1849 t1850 t1851 t115 t1852
theorem lkL_210 : GoodIn TB (wsV RL 210 RX9 yX9_share (.code yX9_share cX9_share 9 (some .int) :: TB)) := gdV t1121 t1122 t1123 t104 t1124
theorem lkL_213 : GoodIn TB (wsV RL 213 RX10 yX10_share (.code yX10_share cX10_share 9 (some .int) :: TB)) := gdV t1854 t1855 t1856 t115 t1857
theorem lkL_214 : GoodIn TB (wsV RL 214 RX9 yX9_worth (.code yX9_worth cX9_worth 2 (some .int) :: TB)) := gdV t1129 t1130 t1131 t104 t1132
theorem lkL_217 : GoodIn TB (wsV RL 217 RX10 yX10_worth (.code yX10_worth cX10_worth 2 (some .int) :: TB)) := gdV t1863 t1864 t1865 t115 t1866
theorem lkL_218 : GoodIn TB (wsV RL 218 RX9 yX9_smiths (.code yX9_smiths cX9_smiths 1 (some .int) :: TB)) := gdV t1137 t1138 t1139 t104 t1140
theorem lkL_221 : GoodIn TB (wsV RL 221 RX10 yX10_smiths (.code yX10_smiths cX10_smiths 1 (some .int) :: TB)) := gdV t1871 t1872 t1873 t115 t1874
theorem lkL_222 : GoodIn TB (wsV RL 222 RX9 yX9_picks (.code yX9_picks cX9_picks 1 (some .int) :: TB)) := gdV t1159 t1160 t1161 t104 t1162
theorem lkL_225 : GoodIn TB (wsV RL 225 RX10 yX10_picks (.code yX10_picks cX10_picks 4 (some .int) :: TB)) := gdV t1885 t1886 t1887 t115 t1888
theorem lkL_226 : GoodIn TB (wsV RL 226 RX9 yX9_drawn (.code yX9_drawn cX9_drawn 5 (some .int) :: TB)) := gdV t1168 t1169 t1170 t104 t1171
theorem lkL_230 : GoodIn TB (wsV RL 230 RX10 yX10_drawn (.code yX10_drawn cX10_drawn 5 (some .int) :: TB)) := gdV t1889 t1890 t1891 t115 t1892
theorem lkL_231 : GoodIn TB (wsV RL 231 RX9 yX9_luck (.code yX9_luck cX9_luck 8 (some .int) :: TB)) := gdV t1188 t1189 t1190 t104 t1191
theorem lkL_234 : GoodIn TB (wsV RL 234 RX10 yX10_luck (.code yX10_luck cX10_luck 8 (some .int) :: TB)) := gdV t1910 t1911 t1912 t115 t1913
theorem lkL_235 : GoodIn TB (wsV RL 235 RX9 yX9_tell (.code yX9_tell cX9_tell 5 (some .int) :: TB)) := gdV t1192 t1193 t1194 t104 t1195
theorem lkL_238 : GoodIn TB (wsV RL 238 RX10 yX10_tell (.code yX10_tell cX10_tell 6 (some .int) :: TB)) := gdV t1914 t1915 t1916 t115 t1917
theorem lkL_239 : GoodIn TB (wsV RL 239 RX9 yX9_hand (.code yX9_hand cX9_hand 3 (some .int) :: TB)) := gdV t1197 t1198 t1199 t104 t1200
theorem lkL_242 : GoodIn TB (wsV RL 242 RX10 yX10_hand (.code yX10_hand cX10_hand 3 (some .int) :: TB)) := gdV t1919 t1920 t1921 t115 t1922
theorem lkL_243 : GoodIn TB (wsV RL 243 RX9 yX9_count (.code yX9_count cX9_count 2 (some .int) :: TB)) := gdV t1201 t1202 t1203 t104 t1204
theorem lkL_246 : GoodIn TB (wsV RL 246 RX10 yX10_count (.code yX10_count cX10_count 4 (some .int) :: TB)) := gdV t1923 t1924 t1925 t115 t1926
theorem lkL_251 : GoodIn TB (wsV RL 251 RX9 yX9_back (.code yX9_back cX9_back 2 (some .int) :: TB)) := gdV t1219 t1220 t1221 t104 t1222
theorem lkL_254 : GoodIn TB (wsV RL 254 RX10 yX10_back (.code yX10_back cX10_back 3 (some .int) :: TB)) := gdV t1385 t1386 t1387 t115 t1388
theorem lkL_261 : GoodIn TB (wsV RL 261 RX9 yX9_write (.code yX9_write cX9_write 5 (some .int) :: TB)) := gdV t1237 t1238 t1239 t104 t1240
theorem lkL_265 : GoodIn TB (wsV RL 265 RX10 yX10_write (.code yX10_write cX10_write 5 (some .int) :: TB)) := gdV t1931 t1932 t1933 t115 t1934
theorem lkL_266 : GoodIn TB (wsV RL 266 RX9 yX9_paste (.code yX9_paste cX9_paste 6 (some .int) :: TB)) := gdV t1248 t1249 t1250 t104 t1251
theorem lkL_269 : GoodIn TB (wsV RL 269 RX10 yX10_paste (.code yX10_paste cX10_paste 7 (some .int) :: TB)) := gdV t1938 t1939 t1940 t115 t1941
theorem lkL_28 : GoodIn TB (wsV RL 28 RX9 yX9_fault (.code yX9_fault cX9_fault 2 (some .int) :: TB)) := gdV t693 t694 t695 t104 t696
theorem lkL_31 : GoodIn TB (wsV RL 31 RX10 yX10_fault (.code yX10_fault cX10_fault 2 (some .int) :: TB)) := gdV t1397 t1398 t1399 t115 t1400
theorem lkL_32 : GoodIn TB (wsV RL 32 RX9 yX9_road (.code yX9_road cX9_road 3 (some .int) :: TB)) := gdV t697 t698 t699 t104 t700
theorem lkL_36 : GoodIn TB (wsV RL 36 RX10 yX10_road (.code yX10_road cX10_road 3 (some .int) :: TB)) := gdV t1501 t1502 t1503 t115 t1504
theorem lkL_37 : GoodIn TB (wsV RL 37 RX9 yX9_likes (.code yX9_likes cX9_likes 3 (some .int) :: TB)) := gdV t705 t706 t707 t104 t708
theorem lkL_40 : GoodIn TB (wsV RL 40 RX10 yX10_likes (.code yX10_likes cX10_likes 3 (some .int) :: TB)) := gdV t1513 t1514 t1515 t115 t1516
theorem lkL_41 : GoodIn TB (wsV RL 41 RX9 yX9_wheel (.code yX9_wheel cX9_wheel 3 (some .int) :: TB)) := gdV t714 t715 t716 t104 t717
theorem lkL_44 : GoodIn TB (wsV RL 44 RX10 yX10_wheel (.code yX10_wheel cX10_wheel 3 (some .int) :: TB)) := gdV t1573 t1574 t1575 t115 t1576
theorem lkL_45 : GoodIn TB (wsV RL 45 RX9 yX9_cart (.code yX9_cart cX9_cart 3 (some .int) :: TB)) := gdV t722 t723 t724 t104 t725
theorem lkL_48 : GoodIn TB (wsV RL 48 RX10 yX10_cart (.code yX10_cart cX10_cart 3 (some .int) :: TB)) := gdV t1581 t1582 t1583 t115 t1584
theorem lkL_49 : GoodIn TB (wsV RL 49 RX9 yX9_errand (.code yX9_errand cX9_errand 3 (some .int) :: TB)) := gdV t734 t735 t736 t104 t737
theorem lkL_52 : GoodIn TB (wsV RL 52 RX10 yX10_errand (.code yX10_errand cX10_errand 3 (some .int) :: TB)) := gdV t1589 t1590 t1591 t115 t1592
theorem lkL_53 : GoodIn TB (wsV RL 53 RX9 yX9_roads (.code yX9_roads cX9_roads 2 (some .int) :: TB)) := gdV t742 t743 t744 t104 t745
theorem lkL_56 : GoodIn TB (wsV RL 56 RX10 yX10_roads (.code yX10_roads cX10_roads 2 (some .int) :: TB)) := gdV t1593 t1594 t1595 t115 t1596
theorem lkL_57 : GoodIn TB (wsV RL 57 RX9 yX9_pull (.code yX9_pull cX9_pull 3 (some .int) :: TB)) := gdV t758 t759 t760 t104 t761
theorem lkL_60 : GoodIn TB (wsV RL 60 RX10 yX10_pull (.code yX10_pull cX10_pull 3 (some .int) :: TB)) := gdV t1605 t1606 t1607 t115 t1608
theorem lkL_61 : GoodIn TB (wsV RL 61 RX9 yX9_takes (.code yX9_takes cX9_takes 3 (some .int) :: TB)) := gdV t766 t767 t768 t104 t769
theorem lkL_64 : GoodIn TB (wsV RL 64 RX10 yX10_takes_ (.code yX10_takes_ cX10_takes_ 3 (some .int) :: TB)) := gdV t1609 t1610 t1611 t115 t1612
theorem lkL_65 : GoodIn TB (wsV RL 65 RX9 yX9_aside (.code yX9_aside cX9_aside 4 (some .int) :: TB)) := gdV t794 t795 t796 t104 t797
theorem lkL_68 : GoodIn TB (wsV RL 68 RX10 yX10_aside (.code yX10_aside cX10_aside 4 (some .int) :: TB)) := gdV t1618 t1619 t1620 t115 t1621
theorem lkL_69 : GoodIn TB (wsV RL 69 RX9 yX9_argue (.code yX9_argue cX9_argue 6 (some .int) :: TB)) := gdV t798 t799 t800 t104 t801
theorem lkL_72 : GoodIn TB (wsV RL 72 RX10 yX10_argue (.code yX10_argue cX10_argue 4 (some .int) :: TB)) := gdV t1622 t1623 t1624 t115 t1625
theorem lkL_73 : GoodIn TB (wsV RL 73 RX9 yX9_drive (.code yX9_drive cX9_drive 3 (some .int) :: TB)) := gdV t804 t805 t806 t104 t807
theorem lkL_76 : GoodIn TB (wsV RL 76 RX10 yX10_drive (.code yX10_drive cX10_drive 3 (some .int) :: TB)) := gdV t1626 t1627 t1628 t115 t1629
theorem lkL_77 : GoodIn TB (wsV RL 77 RX9 yX9_swap (.code yX9_swap cX9_swap 3 (some .int) :: TB)) := gdV t846 t847 t848 t104 t849
theorem lkL_80 : GoodIn TB (wsV RL 80 RX10 yX10_swap (.code yX10_swap cX10_swap 3 (some .int) :: TB)) := gdV t1634 t1635 t1636 t115 t1637
theorem lkL_81 : GoodIn TB (wsV RL 81 RX9 yX9_grease (.code yX9_grease cX9_grease 3 (some .int) :: TB)) := gdV t850 t851 t852 t104 t853
theorem lkL_84 : GoodIn TB (wsV RL 84 RX10 yX10_grease (.code yX10_grease cX10_grease 2 (some .int) :: TB)) := gdV t1638 t1639 t1640 t115 t1641
theorem lkL_85 : GoodIn TB (wsV RL 85 RX9 yX9_undo (.code yX9_undo cX9_undo 1 (some .int) :: TB)) := gdV t854 t855 t856 t104 t857
theorem lkL_88 : GoodIn TB (wsV RL 88 RX10 yX10_undo (.code yX10_undo cX10_undo 1 (some .int) :: TB)) := gdV t1642 t1643 t1644 t115 t1645
theorem lkL_89 : GoodIn TB (wsV RL 89 RX9 yX9_anew (.code yX9_anew cX9_anew 2 (some .int) :: TB)) := gdV t866 t867 t868 t104 t869
theorem lkL_92 : GoodIn TB (wsV RL 92 RX10 yX10_anew (.code yX10_anew cX10_anew 2 (some .int) :: TB)) := gdV t1650 t1651 t1652 t115 t1653
theorem lkL_93 : GoodIn TB (wsV RL 93 RX9 yX9_goes (.code yX9_goes cX9_goes 4 (some .int) :: TB)) := gdV t870 t871 t872 t104 t873
theorem lkL_96 : GoodIn TB (wsV RL 96 RX10 yX10_goes (.code yX10_goes cX10_goes 4 (some .int) :: TB)) := gdV t1654 t1655 t1656 t115 t1657
theorem lkL_97 : GoodIn TB (wsV RL 97 RX9 yX9_ends (.code yX9_ends cX9_ends 4 (some .int) :: TB)) := gdV t901 t902 t903 t104 t904
theorem dL_law_395 : decode cL_law 395 = .ok (.aload_n 1, 1) := by decide +kernel
theorem dL_law_396 : decode cL_law 396 = .ok (.aload_n 0, 1) := by decide +kernel
theorem dL_law_397 : decode cL_law 397 = .ok (.iload_n 3, 1) := by decide +kernel
theorem dL_law_398 : decode cL_law 398 = .ok (.iconst 1, 1) := by decide +kernel
theorem dL_law_399 : decode cL_law 399 = .ok (.iadd, 1) := by decide +kernel
theorem dL_law_400 : decode cL_law 400 = .ok (.iaload, 1) := by decide +kernel
theorem dL_law_401 : decode cL_law 401 = .ok (.invokevirtual 28, 3) := by decide +kernel
theorem dL_law_404 : decode cL_law 404 = .ok (.aload_n 2, 1) := by decide +kernel
theorem dL_law_405 : decode cL_law 405 = .ok (.aload_n 0, 1) := by decide +kernel
theorem dL_law_406 : decode cL_law 406 = .ok (.iload_n 3, 1) := by decide +kernel
theorem dL_law_407 : decode cL_law 407 = .ok (.iconst 1, 1) := by decide +kernel
theorem dL_law_408 : decode cL_law 408 = .ok (.iadd, 1) := by decide +kernel
theorem dL_law_409 : decode cL_law 409 = .ok (.iaload, 1) := by decide +kernel
theorem dL_law_410 : decode cL_law 410 = .ok (.invokevirtual 31, 3) := by decide +kernel
theorem dL_law_413 : decode cL_law 413 = .ok (.if_icmp .eq 1799, 3) := by decide +kernel
theorem dL_law_418 : decode cL_law 418 = .ok (.aload_n 1, 1) := by decide +kernel
theorem dL_law_419 : decode cL_law 419 = .ok (.aload_n 0, 1) := by decide +kernel
theorem dL_law_420 : decode cL_law 420 = .ok (.iload_n 3, 1) := by decide +kernel
theorem dL_law_421 : decode cL_law 421 = .ok (.iconst 1, 1) := by decide +kernel
theorem dL_law_422 : decode cL_law 422 = .ok (.iadd, 1) := by decide +kernel
theorem dL_law_423 : decode cL_law 423 = .ok (.iaload, 1) := by decide +kernel
theorem dL_law_424 : decode cL_law 424 = .ok (.aload_n 0, 1) := by decide +kernel
theorem dL_law_425 : decode cL_law 425 = .ok (.iload_n 3, 1) := by decide +kernel
theorem dL_law_426 : decode cL_law 426 = .ok (.iconst 2, 1) := by decide +kernel
theorem dL_law_427 : decode cL_law 427 = .ok (.iadd, 1) := by decide +kernel
theorem dL_law_428 : decode cL_law 428 = .ok (.iaload, 1) := by decide +kernel
theorem dL_law_429 : decode cL_law 429 = .ok (.invokevirtual 32, 3) := by decide +kernel
theorem dL_law_432 : decode cL_law 432 = .ok (.aload_n 2, 1) := by decide +kernel
theorem dL_law_433 : decode cL_law 433 = .ok (.aload_n 0, 1) := by decide +kernel
theorem dL_law_434 : decode cL_law 434 = .ok (.iload_n 3, 1) := by decide +kernel
theorem dL_law_435 : decode cL_law 435 = .ok (.iconst 1, 1) := by decide +kernel
theorem dL_law_436 : decode cL_law 436 = .ok (.iadd, 1) := by decide +kernel
theorem dL_law_437 : decode cL_law 437 = .ok (.iaload, 1) := by decide +kernel
theorem dL_law_438 : decode cL_law 438 = .ok (.aload_n 0, 1) := by decide +kernel
theorem dL_law_439 : decode cL_law 439 = .ok (.iload_n 3, 1) := by decide +kernel
theorem dL_law_440 : decode cL_law 440 = .ok (.iconst 2, 1) := by decide +kernel
theorem dL_law_441 : decode cL_law 441 = .ok (.iadd, 1) := by decide +kernel
theorem dL_law_442 : decode cL_law 442 = .ok (.iaload, 1) := by decide +kernel
theorem dL_law_443 : decode cL_law 443 = .ok (.invokevirtual 36, 3) := by decide +kernel
theorem dL_law_446 : decode cL_law 446 = .ok (.if_icmp .eq 1766, 3) := by decide +kernel
theorem dL_law_451 : decode cL_law 451 = .ok (.aload_n 1, 1) := by decide +kernel
theorem dL_law_452 : decode cL_law 452 = .ok (.aload_n 0, 1) := by decide +kernel
theorem dL_law_453 : decode cL_law 453 = .ok (.iload_n 3, 1) := by decide +kernel
theorem dL_law_454 : decode cL_law 454 = .ok (.iconst 1, 1) := by decide +kernel
theorem dL_law_455 : decode cL_law 455 = .ok (.iadd, 1) := by decide +kernel
theorem dL_law_456 : decode cL_law 456 = .ok (.iaload, 1) := by decide +kernel
theorem dL_law_457 : decode cL_law 457 = .ok (.aload_n 0, 1) := by decide +kernel
theorem dL_law_458 : decode cL_law 458 = .ok (.iload_n 3, 1) := by decide +kernel
theorem dL_law_459 : decode cL_law 459 = .ok (.iconst 2, 1) := by decide +kernel
theorem dL_law_460 : decode cL_law 460 = .ok (.iadd, 1) := by decide +kernel
theorem dL_law_461 : decode cL_law 461 = .ok (.iaload, 1) := by decide +kernel
theorem dL_law_462 : decode cL_law 462 = .ok (.invokevirtual 37, 3) := by decide +kernel
theorem dL_law_465 : decode cL_law 465 = .ok (.aload_n 2, 1) := by decide +kernel
theorem dL_law_466 : decode cL_law 466 = .ok (.aload_n 0, 1) := by decide +kernel
theorem dL_law_467 : decode cL_law 467 = .ok (.iload_n 3, 1) := by decide +kernel
theorem dL_law_468 : decode cL_law 468 = .ok (.iconst 1, 1) := by decide +kernel
theorem dL_law_469 : decode cL_law 469 = .ok (.iadd, 1) := by decide +kernel
theorem dL_law_470 : decode cL_law 470 = .ok (.iaload, 1) := by decide +kernel
theorem dL_law_471 : decode cL_law 471 = .ok (.aload_n 0, 1) := by decide +kernel
theorem dL_law_472 : decode cL_law 472 = .ok (.iload_n 3, 1) := by decide +kernel
theorem dL_law_473 : decode cL_law 473 = .ok (.iconst 2, 1) := by decide +kernel
theorem dL_law_474 : decode cL_law 474 = .ok (.iadd, 1) := by decide +kernel
theorem dL_law_475 : decode cL_law 475 = .ok (.iaload, 1) := by decide +kernel
theorem dL_law_476 : decode cL_law 476 = .ok (.invokevirtual 40, 3) := by decide +kernel
theorem dL_law_479 : decode cL_law 479 = .ok (.if_icmp .eq 1733, 3) := by decide +kernel
theorem dL_law_484 : decode cL_law 484 = .ok (.aload_n 1, 1) := by decide +kernel
theorem dL_law_485 : decode cL_law 485 = .ok (.aload_n 0, 1) := by decide +kernel
theorem dL_law_486 : decode cL_law 486 = .ok (.iload_n 3, 1) := by decide +kernel
theorem dL_law_487 : decode cL_law 487 = .ok (.iconst 1, 1) := by decide +kernel
theorem dL_law_488 : decode cL_law 488 = .ok (.iadd, 1) := by decide +kernel
theorem dL_law_489 : decode cL_law 489 = .ok (.iaload, 1) := by decide +kernel
theorem dL_law_490 : decode cL_law 490 = .ok (.aload_n 0, 1) := by decide +kernel
theorem dL_law_491 : decode cL_law 491 = .ok (.iload_n 3, 1) := by decide +kernel
theorem dL_law_492 : decode cL_law 492 = .ok (.iconst 2, 1) := by decide +kernel
theorem dL_law_493 : decode cL_law 493 = .ok (.iadd, 1) := by decide +kernel
theorem dL_law_494 : decode cL_law 494 = .ok (.iaload, 1) := by decide +kernel
theorem dL_law_495 : decode cL_law 495 = .ok (.invokevirtual 41, 3) := by decide +kernel
theorem dL_law_498 : decode cL_law 498 = .ok (.aload_n 2, 1) := by decide +kernel
theorem dL_law_499 : decode cL_law 499 = .ok (.aload_n 0, 1) := by decide +kernel
theorem dL_law_500 : decode cL_law 500 = .ok (.iload_n 3, 1) := by decide +kernel
theorem dL_law_501 : decode cL_law 501 = .ok (.iconst 1, 1) := by decide +kernel
theorem dL_law_502 : decode cL_law 502 = .ok (.iadd, 1) := by decide +kernel
theorem dL_law_503 : decode cL_law 503 = .ok (.iaload, 1) := by decide +kernel
theorem dL_law_504 : decode cL_law 504 = .ok (.aload_n 0, 1) := by decide +kernel
theorem dL_law_505 : decode cL_law 505 = .ok (.iload_n 3, 1) := by decide +kernel
theorem dL_law_506 : decode cL_law 506 = .ok (.iconst 2, 1) := by decide +kernel
theorem dL_law_507 : decode cL_law 507 = .ok (.iadd, 1) := by decide +kernel
theorem dL_law_508 : decode cL_law 508 = .ok (.iaload, 1) := by decide +kernel
theorem dL_law_509 : decode cL_law 509 = .ok (.invokevirtual 44, 3) := by decide +kernel
theorem dL_law_512 : decode cL_law 512 = .ok (.if_icmp .eq 1700, 3) := by decide +kernel
theorem dL_law_517 : decode cL_law 517 = .ok (.aload_n 1, 1) := by decide +kernel
theorem dL_law_518 : decode cL_law 518 = .ok (.aload_n 0, 1) := by decide +kernel
theorem dL_law_519 : decode cL_law 519 = .ok (.iload_n 3, 1) := by decide +kernel
theorem dL_law_520 : decode cL_law 520 = .ok (.iconst 1, 1) := by decide +kernel
theorem dL_law_521 : decode cL_law 521 = .ok (.iadd, 1) := by decide +kernel
theorem dL_law_522 : decode cL_law 522 = .ok (.iaload, 1) := by decide +kernel
theorem dL_law_523 : decode cL_law 523 = .ok (.aload_n 0, 1) := by decide +kernel
theorem dL_law_524 : decode cL_law 524 = .ok (.iload_n 3, 1) := by decide +kernel
theorem dL_law_525 : decode cL_law 525 = .ok (.iconst 2, 1) := by decide +kernel
theorem dL_law_526 : decode cL_law 526 = .ok (.iadd, 1) := by decide +kernel
theorem dL_law_527 : decode cL_law 527 = .ok (.iaload, 1) := by decide +kernel
theorem dL_law_528 : decode cL_law 528 = .ok (.invokevirtual 45, 3) := by decide +kernel
theorem dL_law_531 : decode cL_law 531 = .ok (.aload_n 2, 1) := by decide +kernel
theorem dL_law_532 : decode cL_law 532 = .ok (.aload_n 0, 1) := by decide +kernel
theorem dL_law_533 : decode cL_law 533 = .ok (.iload_n 3, 1) := by decide +kernel
theorem dL_law_534 : decode cL_law 534 = .ok (.iconst 1, 1) := by decide +kernel
theorem dL_law_535 : decode cL_law 535 = .ok (.iadd, 1) := by decide +kernel
theorem dL_law_536 : decode cL_law 536 = .ok (.iaload, 1) := by decide +kernel
theorem dL_law_537 : decode cL_law 537 = .ok (.aload_n 0, 1) := by decide +kernel
theorem dL_law_538 : decode cL_law 538 = .ok (.iload_n 3, 1) := by decide +kernel
theorem dL_law_539 : decode cL_law 539 = .ok (.iconst 2, 1) := by decide +kernel
theorem dL_law_540 : decode cL_law 540 = .ok (.iadd, 1) := by decide +kernel
theorem dL_law_541 : decode cL_law 541 = .ok (.iaload, 1) := by decide +kernel
theorem dL_law_542 : decode cL_law 542 = .ok (.invokevirtual 48, 3) := by decide +kernel
theorem dL_law_545 : decode cL_law 545 = .ok (.if_icmp .eq 1667, 3) := by decide +kernel
theorem dL_law_550 : decode cL_law 550 = .ok (.aload_n 1, 1) := by decide +kernel
theorem dL_law_551 : decode cL_law 551 = .ok (.aload_n 0, 1) := by decide +kernel
theorem dL_law_552 : decode cL_law 552 = .ok (.iload_n 3, 1) := by decide +kernel
theorem dL_law_553 : decode cL_law 553 = .ok (.iconst 1, 1) := by decide +kernel
theorem dL_law_554 : decode cL_law 554 = .ok (.iadd, 1) := by decide +kernel
theorem dL_law_555 : decode cL_law 555 = .ok (.iaload, 1) := by decide +kernel
theorem dL_law_556 : decode cL_law 556 = .ok (.aload_n 0, 1) := by decide +kernel
theorem dL_law_557 : decode cL_law 557 = .ok (.iload_n 3, 1) := by decide +kernel
theorem dL_law_558 : decode cL_law 558 = .ok (.iconst 2, 1) := by decide +kernel
theorem dL_law_559 : decode cL_law 559 = .ok (.iadd, 1) := by decide +kernel
theorem dL_law_560 : decode cL_law 560 = .ok (.iaload, 1) := by decide +kernel
theorem dL_law_561 : decode cL_law 561 = .ok (.invokevirtual 49, 3) := by decide +kernel
theorem dL_law_564 : decode cL_law 564 = .ok (.aload_n 2, 1) := by decide +kernel
theorem dL_law_565 : decode cL_law 565 = .ok (.aload_n 0, 1) := by decide +kernel
theorem dL_law_566 : decode cL_law 566 = .ok (.iload_n 3, 1) := by decide +kernel
theorem dL_law_567 : decode cL_law 567 = .ok (.iconst 1, 1) := by decide +kernel
theorem dL_law_568 : decode cL_law 568 = .ok (.iadd, 1) := by decide +kernel
theorem dL_law_569 : decode cL_law 569 = .ok (.iaload, 1) := by decide +kernel
theorem dL_law_570 : decode cL_law 570 = .ok (.aload_n 0, 1) := by decide +kernel
theorem dL_law_571 : decode cL_law 571 = .ok (.iload_n 3, 1) := by decide +kernel
theorem dL_law_572 : decode cL_law 572 = .ok (.iconst 2, 1) := by decide +kernel
theorem dL_law_573 : decode cL_law 573 = .ok (.iadd, 1) := by decide +kernel
theorem dL_law_574 : decode cL_law 574 = .ok (.iaload, 1) := by decide +kernel
theorem dL_law_575 : decode cL_law 575 = .ok (.invokevirtual 52, 3) := by decide +kernel
theorem dL_law_578 : decode cL_law 578 = .ok (.if_icmp .eq 1634, 3) := by decide +kernel
theorem dL_law_583 : decode cL_law 583 = .ok (.aload_n 1, 1) := by decide +kernel
theorem dL_law_584 : decode cL_law 584 = .ok (.aload_n 0, 1) := by decide +kernel
theorem dL_law_585 : decode cL_law 585 = .ok (.iload_n 3, 1) := by decide +kernel
theorem dL_law_586 : decode cL_law 586 = .ok (.iconst 1, 1) := by decide +kernel
theorem dL_law_587 : decode cL_law 587 = .ok (.iadd, 1) := by decide +kernel
theorem dL_law_588 : decode cL_law 588 = .ok (.iaload, 1) := by decide +kernel
theorem dL_law_589 : decode cL_law 589 = .ok (.invokevirtual 53, 3) := by decide +kernel
theorem dL_law_592 : decode cL_law 592 = .ok (.aload_n 2, 1) := by decide +kernel
theorem dL_law_593 : decode cL_law 593 = .ok (.aload_n 0, 1) := by decide +kernel
theorem dL_law_594 : decode cL_law 594 = .ok (.iload_n 3, 1) := by decide +kernel
theorem dL_law_595 : decode cL_law 595 = .ok (.iconst 1, 1) := by decide +kernel
theorem dL_law_596 : decode cL_law 596 = .ok (.iadd, 1) := by decide +kernel
theorem dL_law_597 : decode cL_law 597 = .ok (.iaload, 1) := by decide +kernel
theorem dL_law_598 : decode cL_law 598 = .ok (.invokevirtual 56, 3) := by decide +kernel
theorem dL_law_601 : decode cL_law 601 = .ok (.if_icmp .eq 1611, 3) := by decide +kernel
theorem dL_law_606 : decode cL_law 606 = .ok (.aload_n 1, 1) := by decide +kernel
theorem dL_law_607 : decode cL_law 607 = .ok (.aload_n 0, 1) := by decide +kernel
theorem dL_law_608 : decode cL_law 608 = .ok (.iload_n 3, 1) := by decide +kernel
theorem dL_law_609 : decode cL_law 609 = .ok (.iconst 1, 1) := by decide +kernel
theorem dL_law_610 : decode cL_law 610 = .ok (.iadd, 1) := by decide +kernel
theorem dL_law_611 : decode cL_law 611 = .ok (.iaload, 1) := by decide +kernel
theorem dL_law_612 : decode cL_law 612 = .ok (.aload_n 0, 1) := by decide +kernel
theorem dL_law_613 : decode cL_law 613 = .ok (.iload_n 3, 1) := by decide +kernel
theorem dL_law_614 : decode cL_law 614 = .ok (.iconst 2, 1) := by decide +kernel
theorem dL_law_615 : decode cL_law 615 = .ok (.iadd, 1) := by decide +kernel
theorem dL_law_616 : decode cL_law 616 = .ok (.iaload, 1) := by decide +kernel
theorem dL_law_617 : decode cL_law 617 = .ok (.invokevirtual 57, 3) := by decide +kernel
theorem dL_law_620 : decode cL_law 620 = .ok (.aload_n 2, 1) := by decide +kernel
theorem dL_law_621 : decode cL_law 621 = .ok (.aload_n 0, 1) := by decide +kernel
theorem dL_law_622 : decode cL_law 622 = .ok (.iload_n 3, 1) := by decide +kernel
theorem dL_law_623 : decode cL_law 623 = .ok (.iconst 1, 1) := by decide +kernel
theorem dL_law_624 : decode cL_law 624 = .ok (.iadd, 1) := by decide +kernel
theorem dL_law_625 : decode cL_law 625 = .ok (.iaload, 1) := by decide +kernel
theorem dL_law_626 : decode cL_law 626 = .ok (.aload_n 0, 1) := by decide +kernel
theorem dL_law_627 : decode cL_law 627 = .ok (.iload_n 3, 1) := by decide +kernel
theorem dL_law_628 : decode cL_law 628 = .ok (.iconst 2, 1) := by decide +kernel
theorem dL_law_629 : decode cL_law 629 = .ok (.iadd, 1) := by decide +kernel
theorem dL_law_630 : decode cL_law 630 = .ok (.iaload, 1) := by decide +kernel
theorem dL_law_631 : decode cL_law 631 = .ok (.invokevirtual 60, 3) := by decide +kernel
theorem dL_law_634 : decode cL_law 634 = .ok (.if_icmp .eq 1578, 3) := by decide +kernel
theorem dL_law_639 : decode cL_law 639 = .ok (.aload_n 1, 1) := by decide +kernel
theorem dL_law_640 : decode cL_law 640 = .ok (.aload_n 0, 1) := by decide +kernel
theorem dL_law_641 : decode cL_law 641 = .ok (.iload_n 3, 1) := by decide +kernel
theorem dL_law_642 : decode cL_law 642 = .ok (.iconst 1, 1) := by decide +kernel
theorem dL_law_643 : decode cL_law 643 = .ok (.iadd, 1) := by decide +kernel
theorem dL_law_644 : decode cL_law 644 = .ok (.iaload, 1) := by decide +kernel
theorem dL_law_645 : decode cL_law 645 = .ok (.aload_n 0, 1) := by decide +kernel
theorem dL_law_646 : decode cL_law 646 = .ok (.iload_n 3, 1) := by decide +kernel
theorem dL_law_647 : decode cL_law 647 = .ok (.iconst 2, 1) := by decide +kernel
theorem dL_law_648 : decode cL_law 648 = .ok (.iadd, 1) := by decide +kernel
theorem dL_law_649 : decode cL_law 649 = .ok (.iaload, 1) := by decide +kernel
theorem dL_law_650 : decode cL_law 650 = .ok (.invokevirtual 61, 3) := by decide +kernel
theorem dL_law_653 : decode cL_law 653 = .ok (.aload_n 2, 1) := by decide +kernel
theorem dL_law_654 : decode cL_law 654 = .ok (.aload_n 0, 1) := by decide +kernel
theorem dL_law_655 : decode cL_law 655 = .ok (.iload_n 3, 1) := by decide +kernel
theorem dL_law_656 : decode cL_law 656 = .ok (.iconst 1, 1) := by decide +kernel
theorem dL_law_657 : decode cL_law 657 = .ok (.iadd, 1) := by decide +kernel
theorem dL_law_658 : decode cL_law 658 = .ok (.iaload, 1) := by decide +kernel
theorem dL_law_659 : decode cL_law 659 = .ok (.aload_n 0, 1) := by decide +kernel
theorem dL_law_660 : decode cL_law 660 = .ok (.iload_n 3, 1) := by decide +kernel
theorem dL_law_661 : decode cL_law 661 = .ok (.iconst 2, 1) := by decide +kernel
theorem dL_law_662 : decode cL_law 662 = .ok (.iadd, 1) := by decide +kernel
theorem dL_law_663 : decode cL_law 663 = .ok (.iaload, 1) := by decide +kernel
theorem dL_law_664 : decode cL_law 664 = .ok (.invokevirtual 64, 3) := by decide +kernel
theorem dL_law_667 : decode cL_law 667 = .ok (.if_icmp .eq 1545, 3) := by decide +kernel
theorem dL_law_672 : decode cL_law 672 = .ok (.aload_n 1, 1) := by decide +kernel
theorem dL_law_673 : decode cL_law 673 = .ok (.aload_n 0, 1) := by decide +kernel
theorem dL_law_674 : decode cL_law 674 = .ok (.iload_n 3, 1) := by decide +kernel
theorem dL_law_675 : decode cL_law 675 = .ok (.iconst 1, 1) := by decide +kernel
theorem dL_law_676 : decode cL_law 676 = .ok (.iadd, 1) := by decide +kernel
theorem dL_law_677 : decode cL_law 677 = .ok (.iaload, 1) := by decide +kernel
theorem dL_law_678 : decode cL_law 678 = .ok (.invokevirtual 65, 3) := by decide +kernel
theorem dL_law_681 : decode cL_law 681 = .ok (.aload_n 2, 1) := by decide +kernel
theorem dL_law_682 : decode cL_law 682 = .ok (.aload_n 0, 1) := by decide +kernel
theorem dL_law_683 : decode cL_law 683 = .ok (.iload_n 3, 1) := by decide +kernel
theorem dL_law_684 : decode cL_law 684 = .ok (.iconst 1, 1) := by decide +kernel
theorem dL_law_685 : decode cL_law 685 = .ok (.iadd, 1) := by decide +kernel
theorem dL_law_686 : decode cL_law 686 = .ok (.iaload, 1) := by decide +kernel
theorem dL_law_687 : decode cL_law 687 = .ok (.invokevirtual 68, 3) := by decide +kernel
theorem dL_law_690 : decode cL_law 690 = .ok (.if_icmp .eq 1522, 3) := by decide +kernel
theorem dL_law_695 : decode cL_law 695 = .ok (.aload_n 1, 1) := by decide +kernel
theorem dL_law_696 : decode cL_law 696 = .ok (.aload_n 0, 1) := by decide +kernel
theorem dL_law_697 : decode cL_law 697 = .ok (.iload_n 3, 1) := by decide +kernel
theorem dL_law_698 : decode cL_law 698 = .ok (.iconst 1, 1) := by decide +kernel
theorem dL_law_699 : decode cL_law 699 = .ok (.iadd, 1) := by decide +kernel
theorem dL_law_700 : decode cL_law 700 = .ok (.iaload, 1) := by decide +kernel
theorem dL_law_701 : decode cL_law 701 = .ok (.aload_n 0, 1) := by decide +kernel
theorem dL_law_702 : decode cL_law 702 = .ok (.iload_n 3, 1) := by decide +kernel
theorem dL_law_703 : decode cL_law 703 = .ok (.iconst 2, 1) := by decide +kernel
theorem dL_law_704 : decode cL_law 704 = .ok (.iadd, 1) := by decide +kernel
theorem dL_law_705 : decode cL_law 705 = .ok (.iaload, 1) := by decide +kernel
theorem dL_law_706 : decode cL_law 706 = .ok (.invokevirtual 69, 3) := by decide +kernel
theorem dL_law_709 : decode cL_law 709 = .ok (.aload_n 2, 1) := by decide +kernel
theorem dL_law_710 : decode cL_law 710 = .ok (.aload_n 0, 1) := by decide +kernel
theorem dL_law_711 : decode cL_law 711 = .ok (.iload_n 3, 1) := by decide +kernel
theorem dL_law_712 : decode cL_law 712 = .ok (.iconst 1, 1) := by decide +kernel
theorem dL_law_713 : decode cL_law 713 = .ok (.iadd, 1) := by decide +kernel
theorem dL_law_714 : decode cL_law 714 = .ok (.iaload, 1) := by decide +kernel
theorem dL_law_715 : decode cL_law 715 = .ok (.aload_n 0, 1) := by decide +kernel
theorem dL_law_716 : decode cL_law 716 = .ok (.iload_n 3, 1) := by decide +kernel
theorem dL_law_717 : decode cL_law 717 = .ok (.iconst 2, 1) := by decide +kernel
theorem dL_law_718 : decode cL_law 718 = .ok (.iadd, 1) := by decide +kernel
theorem dL_law_719 : decode cL_law 719 = .ok (.iaload, 1) := by decide +kernel
theorem dL_law_720 : decode cL_law 720 = .ok (.invokevirtual 72, 3) := by decide +kernel
theorem dL_law_723 : decode cL_law 723 = .ok (.if_icmp .eq 1489, 3) := by decide +kernel
theorem dL_law_728 : decode cL_law 728 = .ok (.aload_n 1, 1) := by decide +kernel
theorem dL_law_729 : decode cL_law 729 = .ok (.aload_n 0, 1) := by decide +kernel
theorem dL_law_730 : decode cL_law 730 = .ok (.iload_n 3, 1) := by decide +kernel
theorem dL_law_731 : decode cL_law 731 = .ok (.iconst 1, 1) := by decide +kernel
theorem dL_law_732 : decode cL_law 732 = .ok (.iadd, 1) := by decide +kernel
theorem dL_law_733 : decode cL_law 733 = .ok (.iaload, 1) := by decide +kernel
theorem dL_law_734 : decode cL_law 734 = .ok (.aload_n 0, 1) := by decide +kernel
theorem dL_law_735 : decode cL_law 735 = .ok (.iload_n 3, 1) := by decide +kernel
theorem dL_law_736 : decode cL_law 736 = .ok (.iconst 2, 1) := by decide +kernel
theorem dL_law_737 : decode cL_law 737 = .ok (.iadd, 1) := by decide +kernel
theorem dL_law_738 : decode cL_law 738 = .ok (.iaload, 1) := by decide +kernel
theorem dL_law_739 : decode cL_law 739 = .ok (.invokevirtual 73, 3) := by decide +kernel
theorem dL_law_742 : decode cL_law 742 = .ok (.aload_n 2, 1) := by decide +kernel
theorem dL_law_743 : decode cL_law 743 = .ok (.aload_n 0, 1) := by decide +kernel
theorem dL_law_744 : decode cL_law 744 = .ok (.iload_n 3, 1) := by decide +kernel
theorem dL_law_745 : decode cL_law 745 = .ok (.iconst 1, 1) := by decide +kernel
theorem dL_law_746 : decode cL_law 746 = .ok (.iadd, 1) := by decide +kernel
theorem dL_law_747 : decode cL_law 747 = .ok (.iaload, 1) := by decide +kernel
theorem dL_law_748 : decode cL_law 748 = .ok (.aload_n 0, 1) := by decide +kernel
theorem dL_law_749 : decode cL_law 749 = .ok (.iload_n 3, 1) := by decide +kernel
theorem dL_law_750 : decode cL_law 750 = .ok (.iconst 2, 1) := by decide +kernel
theorem dL_law_751 : decode cL_law 751 = .ok (.iadd, 1) := by decide +kernel
theorem dL_law_752 : decode cL_law 752 = .ok (.iaload, 1) := by decide +kernel
theorem dL_law_753 : decode cL_law 753 = .ok (.invokevirtual 76, 3) := by decide +kernel
theorem dL_law_756 : decode cL_law 756 = .ok (.if_icmp .eq 1456, 3) := by decide +kernel
theorem dL_law_761 : decode cL_law 761 = .ok (.aload_n 1, 1) := by decide +kernel
theorem dL_law_762 : decode cL_law 762 = .ok (.aload_n 0, 1) := by decide +kernel
theorem dL_law_763 : decode cL_law 763 = .ok (.iload_n 3, 1) := by decide +kernel
theorem dL_law_764 : decode cL_law 764 = .ok (.iconst 1, 1) := by decide +kernel
theorem dL_law_765 : decode cL_law 765 = .ok (.iadd, 1) := by decide +kernel
theorem dL_law_766 : decode cL_law 766 = .ok (.iaload, 1) := by decide +kernel
theorem dL_law_767 : decode cL_law 767 = .ok (.aload_n 0, 1) := by decide +kernel
theorem dL_law_768 : decode cL_law 768 = .ok (.iload_n 3, 1) := by decide +kernel
theorem dL_law_769 : decode cL_law 769 = .ok (.iconst 2, 1) := by decide +kernel
theorem dL_law_770 : decode cL_law 770 = .ok (.iadd, 1) := by decide +kernel
theorem dL_law_771 : decode cL_law 771 = .ok (.iaload, 1) := by decide +kernel
theorem dL_law_772 : decode cL_law 772 = .ok (.invokevirtual 77, 3) := by decide +kernel
theorem dL_law_775 : decode cL_law 775 = .ok (.aload_n 2, 1) := by decide +kernel
theorem dL_law_776 : decode cL_law 776 = .ok (.aload_n 0, 1) := by decide +kernel
theorem dL_law_777 : decode cL_law 777 = .ok (.iload_n 3, 1) := by decide +kernel
theorem dL_law_778 : decode cL_law 778 = .ok (.iconst 1, 1) := by decide +kernel
theorem dL_law_779 : decode cL_law 779 = .ok (.iadd, 1) := by decide +kernel
theorem dL_law_780 : decode cL_law 780 = .ok (.iaload, 1) := by decide +kernel
theorem dL_law_781 : decode cL_law 781 = .ok (.aload_n 0, 1) := by decide +kernel
theorem dL_law_782 : decode cL_law 782 = .ok (.iload_n 3, 1) := by decide +kernel
theorem dL_law_783 : decode cL_law 783 = .ok (.iconst 2, 1) := by decide +kernel
theorem dL_law_784 : decode cL_law 784 = .ok (.iadd, 1) := by decide +kernel
theorem dL_law_785 : decode cL_law 785 = .ok (.iaload, 1) := by decide +kernel
theorem dL_law_786 : decode cL_law 786 = .ok (.invokevirtual 80, 3) := by decide +kernel
theorem dL_law_789 : decode cL_law 789 = .ok (.if_icmp .eq 1423, 3) := by decide +kernel
theorem dL_law_794 : decode cL_law 794 = .ok (.aload_n 1, 1) := by decide +kernel
theorem dL_law_795 : decode cL_law 795 = .ok (.aload_n 0, 1) := by decide +kernel
theorem dL_law_796 : decode cL_law 796 = .ok (.iload_n 3, 1) := by decide +kernel
theorem dL_law_797 : decode cL_law 797 = .ok (.iconst 1, 1) := by decide +kernel
theorem dL_law_798 : decode cL_law 798 = .ok (.iadd, 1) := by decide +kernel
theorem dL_law_799 : decode cL_law 799 = .ok (.iaload, 1) := by decide +kernel
theorem dL_law_800 : decode cL_law 800 = .ok (.invokevirtual 81, 3) := by decide +kernel
theorem dL_law_803 : decode cL_law 803 = .ok (.aload_n 2, 1) := by decide +kernel
theorem dL_law_804 : decode cL_law 804 = .ok (.aload_n 0, 1) := by decide +kernel
theorem dL_law_805 : decode cL_law 805 = .ok (.iload_n 3, 1) := by decide +kernel
theorem dL_law_806 : decode cL_law 806 = .ok (.iconst 1, 1) := by decide +kernel
theorem dL_law_807 : decode cL_law 807 = .ok (.iadd, 1) := by decide +kernel
theorem dL_law_808 : decode cL_law 808 = .ok (.iaload, 1) := by decide +kernel
theorem dL_law_809 : decode cL_law 809 = .ok (.invokevirtual 84, 3) := by decide +kernel
theorem dL_law_812 : decode cL_law 812 = .ok (.if_icmp .eq 1400, 3) := by decide +kernel
theorem dL_law_817 : decode cL_law 817 = .ok (.aload_n 1, 1) := by decide +kernel
theorem dL_law_818 : decode cL_law 818 = .ok (.invokevirtual 85, 3) := by decide +kernel
theorem dL_law_821 : decode cL_law 821 = .ok (.aload_n 2, 1) := by decide +kernel
theorem dL_law_822 : decode cL_law 822 = .ok (.invokevirtual 88, 3) := by decide +kernel
theorem dL_law_825 : decode cL_law 825 = .ok (.if_icmp .eq 1387, 3) := by decide +kernel
theorem dL_law_830 : decode cL_law 830 = .ok (.aload_n 1, 1) := by decide +kernel
theorem dL_law_831 : decode cL_law 831 = .ok (.invokevirtual 89, 3) := by decide +kernel
theorem dL_law_834 : decode cL_law 834 = .ok (.aload_n 2, 1) := by decide +kernel
theorem dL_law_835 : decode cL_law 835 = .ok (.invokevirtual 92, 3) := by decide +kernel
theorem dL_law_838 : decode cL_law 838 = .ok (.if_icmp .eq 1374, 3) := by decide +kernel
theorem dL_law_843 : decode cL_law 843 = .ok (.aload_n 1, 1) := by decide +kernel
theorem dL_law_844 : decode cL_law 844 = .ok (.aload_n 0, 1) := by decide +kernel
theorem dL_law_845 : decode cL_law 845 = .ok (.iload_n 3, 1) := by decide +kernel
theorem dL_law_846 : decode cL_law 846 = .ok (.iconst 1, 1) := by decide +kernel
theorem dL_law_847 : decode cL_law 847 = .ok (.iadd, 1) := by decide +kernel
theorem dL_law_848 : decode cL_law 848 = .ok (.iaload, 1) := by decide +kernel
theorem dL_law_849 : decode cL_law 849 = .ok (.aload_n 0, 1) := by decide +kernel
theorem dL_law_850 : decode cL_law 850 = .ok (.iload_n 3, 1) := by decide +kernel
theorem dL_law_851 : decode cL_law 851 = .ok (.iconst 2, 1) := by decide +kernel
theorem dL_law_852 : decode cL_law 852 = .ok (.iadd, 1) := by decide +kernel
theorem dL_law_853 : decode cL_law 853 = .ok (.iaload, 1) := by decide +kernel
theorem dL_law_854 : decode cL_law 854 = .ok (.invokevirtual 93, 3) := by decide +kernel
theorem dL_law_857 : decode cL_law 857 = .ok (.aload_n 2, 1) := by decide +kernel
theorem dL_law_858 : decode cL_law 858 = .ok (.aload_n 0, 1) := by decide +kernel
theorem dL_law_859 : decode cL_law 859 = .ok (.iload_n 3, 1) := by decide +kernel
theorem dL_law_860 : decode cL_law 860 = .ok (.iconst 1, 1) := by decide +kernel
theorem dL_law_861 : decode cL_law 861 = .ok (.iadd, 1) := by decide +kernel
theorem dL_law_862 : decode cL_law 862 = .ok (.iaload, 1) := by decide +kernel
theorem dL_law_863 : decode cL_law 863 = .ok (.aload_n 0, 1) := by decide +kernel
theorem dL_law_864 : decode cL_law 864 = .ok (.iload_n 3, 1) := by decide +kernel
theorem dL_law_865 : decode cL_law 865 = .ok (.iconst 2, 1) := by decide +kernel
theorem dL_law_866 : decode cL_law 866 = .ok (.iadd, 1) := by decide +kernel
theorem dL_law_867 : decode cL_law 867 = .ok (.iaload, 1) := by decide +kernel
theorem dL_law_868 : decode cL_law 868 = .ok (.invokevirtual 96, 3) := by decide +kernel
theorem dL_law_871 : decode cL_law 871 = .ok (.if_icmp .eq 1341, 3) := by decide +kernel
theorem dL_law_876 : decode cL_law 876 = .ok (.aload_n 1, 1) := by decide +kernel
theorem dL_law_877 : decode cL_law 877 = .ok (.aload_n 0, 1) := by decide +kernel
theorem dL_law_878 : decode cL_law 878 = .ok (.iload_n 3, 1) := by decide +kernel
theorem dL_law_879 : decode cL_law 879 = .ok (.iconst 1, 1) := by decide +kernel
theorem dL_law_880 : decode cL_law 880 = .ok (.iadd, 1) := by decide +kernel
theorem dL_law_881 : decode cL_law 881 = .ok (.iaload, 1) := by decide +kernel
theorem dL_law_882 : decode cL_law 882 = .ok (.aload_n 0, 1) := by decide +kernel
theorem dL_law_883 : decode cL_law 883 = .ok (.iload_n 3, 1) := by decide +kernel
theorem dL_law_884 : decode cL_law 884 = .ok (.iconst 2, 1) := by decide +kernel
theorem dL_law_885 : decode cL_law 885 = .ok (.iadd, 1) := by decide +kernel
theorem dL_law_886 : decode cL_law 886 = .ok (.iaload, 1) := by decide +kernel
theorem dL_law_887 : decode cL_law 887 = .ok (.invokevirtual 97, 3) := by decide +kernel
theorem dL_law_890 : decode cL_law 890 = .ok (.aload_n 2, 1) := by decide +kernel
theorem dL_law_891 : decode cL_law 891 = .ok (.aload_n 0, 1) := by decide +kernel
theorem dL_law_892 : decode cL_law 892 = .ok (.iload_n 3, 1) := by decide +kernel
theorem dL_law_893 : decode cL_law 893 = .ok (.iconst 1, 1) := by decide +kernel
theorem dL_law_894 : decode cL_law 894 = .ok (.iadd, 1) := by decide +kernel
theorem dL_law_895 : decode cL_law 895 = .ok (.iaload, 1) := by decide +kernel
theorem dL_law_896 : decode cL_law 896 = .ok (.aload_n 0, 1) := by decide +kernel
theorem dL_law_897 : decode cL_law 897 = .ok (.iload_n 3, 1) := by decide +kernel
theorem dL_law_898 : decode cL_law 898 = .ok (.iconst 2, 1) := by decide +kernel
theorem dL_law_899 : decode cL_law 899 = .ok (.iadd, 1) := by decide +kernel
theorem dL_law_900 : decode cL_law 900 = .ok (.iaload, 1) := by decide +kernel
theorem dL_law_901 : decode cL_law 901 = .ok (.invokevirtual 100, 3) := by decide +kernel
theorem dL_law_904 : decode cL_law 904 = .ok (.if_icmp .eq 1308, 3) := by decide +kernel
theorem dL_law_909 : decode cL_law 909 = .ok (.aload_n 1, 1) := by decide +kernel
theorem dL_law_910 : decode cL_law 910 = .ok (.aload_n 0, 1) := by decide +kernel
theorem dL_law_911 : decode cL_law 911 = .ok (.iload_n 3, 1) := by decide +kernel
theorem dL_law_912 : decode cL_law 912 = .ok (.iconst 1, 1) := by decide +kernel
theorem dL_law_913 : decode cL_law 913 = .ok (.iadd, 1) := by decide +kernel
theorem dL_law_914 : decode cL_law 914 = .ok (.iaload, 1) := by decide +kernel
theorem dL_law_915 : decode cL_law 915 = .ok (.aload_n 0, 1) := by decide +kernel
theorem dL_law_916 : decode cL_law 916 = .ok (.iload_n 3, 1) := by decide +kernel
theorem dL_law_917 : decode cL_law 917 = .ok (.iconst 2, 1) := by decide +kernel
theorem dL_law_918 : decode cL_law 918 = .ok (.iadd, 1) := by decide +kernel
theorem dL_law_919 : decode cL_law 919 = .ok (.iaload, 1) := by decide +kernel
theorem dL_law_920 : decode cL_law 920 = .ok (.invokevirtual 101, 3) := by decide +kernel
theorem dL_law_923 : decode cL_law 923 = .ok (.aload_n 2, 1) := by decide +kernel
theorem dL_law_924 : decode cL_law 924 = .ok (.aload_n 0, 1) := by decide +kernel
theorem dL_law_925 : decode cL_law 925 = .ok (.iload_n 3, 1) := by decide +kernel
theorem dL_law_926 : decode cL_law 926 = .ok (.iconst 1, 1) := by decide +kernel
theorem dL_law_927 : decode cL_law 927 = .ok (.iadd, 1) := by decide +kernel
theorem dL_law_928 : decode cL_law 928 = .ok (.iaload, 1) := by decide +kernel
theorem dL_law_929 : decode cL_law 929 = .ok (.aload_n 0, 1) := by decide +kernel
theorem dL_law_930 : decode cL_law 930 = .ok (.iload_n 3, 1) := by decide +kernel
theorem dL_law_931 : decode cL_law 931 = .ok (.iconst 2, 1) := by decide +kernel
theorem dL_law_932 : decode cL_law 932 = .ok (.iadd, 1) := by decide +kernel
theorem dL_law_933 : decode cL_law 933 = .ok (.iaload, 1) := by decide +kernel
theorem dL_law_934 : decode cL_law 934 = .ok (.invokevirtual 104, 3) := by decide +kernel
theorem dL_law_937 : decode cL_law 937 = .ok (.if_icmp .eq 1275, 3) := by decide +kernel
theorem dL_law_942 : decode cL_law 942 = .ok (.aload_n 1, 1) := by decide +kernel
theorem dL_law_943 : decode cL_law 943 = .ok (.aload_n 0, 1) := by decide +kernel
theorem dL_law_944 : decode cL_law 944 = .ok (.iload_n 3, 1) := by decide +kernel
theorem dL_law_945 : decode cL_law 945 = .ok (.iconst 1, 1) := by decide +kernel
theorem dL_law_946 : decode cL_law 946 = .ok (.iadd, 1) := by decide +kernel
theorem dL_law_947 : decode cL_law 947 = .ok (.iaload, 1) := by decide +kernel
theorem dL_law_948 : decode cL_law 948 = .ok (.aload_n 0, 1) := by decide +kernel
theorem dL_law_949 : decode cL_law 949 = .ok (.iload_n 3, 1) := by decide +kernel
theorem dL_law_950 : decode cL_law 950 = .ok (.iconst 2, 1) := by decide +kernel
theorem dL_law_951 : decode cL_law 951 = .ok (.iadd, 1) := by decide +kernel
theorem dL_law_952 : decode cL_law 952 = .ok (.iaload, 1) := by decide +kernel
theorem dL_law_953 : decode cL_law 953 = .ok (.invokevirtual 105, 3) := by decide +kernel
theorem dL_law_956 : decode cL_law 956 = .ok (.aload_n 2, 1) := by decide +kernel
theorem dL_law_957 : decode cL_law 957 = .ok (.aload_n 0, 1) := by decide +kernel
theorem dL_law_958 : decode cL_law 958 = .ok (.iload_n 3, 1) := by decide +kernel
theorem dL_law_959 : decode cL_law 959 = .ok (.iconst 1, 1) := by decide +kernel
theorem dL_law_960 : decode cL_law 960 = .ok (.iadd, 1) := by decide +kernel
theorem dL_law_961 : decode cL_law 961 = .ok (.iaload, 1) := by decide +kernel
theorem dL_law_962 : decode cL_law 962 = .ok (.aload_n 0, 1) := by decide +kernel
theorem dL_law_963 : decode cL_law 963 = .ok (.iload_n 3, 1) := by decide +kernel
theorem dL_law_964 : decode cL_law 964 = .ok (.iconst 2, 1) := by decide +kernel
theorem dL_law_965 : decode cL_law 965 = .ok (.iadd, 1) := by decide +kernel
theorem dL_law_966 : decode cL_law 966 = .ok (.iaload, 1) := by decide +kernel
theorem dL_law_967 : decode cL_law 967 = .ok (.invokevirtual 108, 3) := by decide +kernel
theorem dL_law_970 : decode cL_law 970 = .ok (.if_icmp .eq 1242, 3) := by decide +kernel
theorem dL_law_975 : decode cL_law 975 = .ok (.aload_n 1, 1) := by decide +kernel
theorem dL_law_976 : decode cL_law 976 = .ok (.aload_n 0, 1) := by decide +kernel
theorem dL_law_977 : decode cL_law 977 = .ok (.iload_n 3, 1) := by decide +kernel
theorem dL_law_978 : decode cL_law 978 = .ok (.iconst 1, 1) := by decide +kernel
theorem dL_law_979 : decode cL_law 979 = .ok (.iadd, 1) := by decide +kernel
theorem dL_law_980 : decode cL_law 980 = .ok (.iaload, 1) := by decide +kernel
theorem dL_law_981 : decode cL_law 981 = .ok (.aload_n 0, 1) := by decide +kernel
theorem dL_law_982 : decode cL_law 982 = .ok (.iload_n 3, 1) := by decide +kernel
theorem dL_law_983 : decode cL_law 983 = .ok (.iconst 2, 1) := by decide +kernel
theorem dL_law_984 : decode cL_law 984 = .ok (.iadd, 1) := by decide +kernel
theorem dL_law_985 : decode cL_law 985 = .ok (.iaload, 1) := by decide +kernel
theorem dL_law_986 : decode cL_law 986 = .ok (.invokevirtual 109, 3) := by decide +kernel
theorem dL_law_989 : decode cL_law 989 = .ok (.aload_n 2, 1) := by decide +kernel
theorem dL_law_990 : decode cL_law 990 = .ok (.aload_n 0, 1) := by decide +kernel
theorem dL_law_991 : decode cL_law 991 = .ok (.iload_n 3, 1) := by decide +kernel
theorem dL_law_992 : decode cL_law 992 = .ok (.iconst 1, 1) := by decide +kernel
theorem dL_law_993 : decode cL_law 993 = .ok (.iadd, 1) := by decide +kernel
theorem dL_law_994 : decode cL_law 994 = .ok (.iaload, 1) := by decide +kernel
theorem dL_law_995 : decode cL_law 995 = .ok (.aload_n 0, 1) := by decide +kernel
theorem dL_law_996 : decode cL_law 996 = .ok (.iload_n 3, 1) := by decide +kernel
theorem dL_law_997 : decode cL_law 997 = .ok (.iconst 2, 1) := by decide +kernel
theorem dL_law_998 : decode cL_law 998 = .ok (.iadd, 1) := by decide +kernel
theorem dL_law_999 : decode cL_law 999 = .ok (.iaload, 1) := by decide +kernel
theorem dL_law_1000 : decode cL_law 1000 = .ok (.invokevirtual 112, 3) := by decide +kernel
theorem dL_law_1003 : decode cL_law 1003 = .ok (.if_icmp .eq 1209, 3) := by decide +kernel
theorem dL_law_1008 : decode cL_law 1008 = .ok (.aload_n 1, 1) := by decide +kernel
theorem dL_law_1009 : decode cL_law 1009 = .ok (.aload_n 0, 1) := by decide +kernel
theorem dL_law_1010 : decode cL_law 1010 = .ok (.iload_n 3, 1) := by decide +kernel
theorem dL_law_1011 : decode cL_law 1011 = .ok (.iconst 1, 1) := by decide +kernel
theorem dL_law_1012 : decode cL_law 1012 = .ok (.iadd, 1) := by decide +kernel
theorem dL_law_1013 : decode cL_law 1013 = .ok (.iaload, 1) := by decide +kernel
theorem dL_law_1014 : decode cL_law 1014 = .ok (.aload_n 0, 1) := by decide +kernel
theorem dL_law_1015 : decode cL_law 1015 = .ok (.iload_n 3, 1) := by decide +kernel
theorem dL_law_1016 : decode cL_law 1016 = .ok (.iconst 2, 1) := by decide +kernel
theorem dL_law_1017 : decode cL_law 1017 = .ok (.iadd, 1) := by decide +kernel
theorem dL_law_1018 : decode cL_law 1018 = .ok (.iaload, 1) := by decide +kernel
theorem dL_law_1019 : decode cL_law 1019 = .ok (.invokevirtual 113, 3) := by decide +kernel
theorem dL_law_1022 : decode cL_law 1022 = .ok (.aload_n 2, 1) := by decide +kernel
theorem dL_law_1023 : decode cL_law 1023 = .ok (.aload_n 0, 1) := by decide +kernel
theorem dL_law_1024 : decode cL_law 1024 = .ok (.iload_n 3, 1) := by decide +kernel
theorem dL_law_1025 : decode cL_law 1025 = .ok (.iconst 1, 1) := by decide +kernel
theorem dL_law_1026 : decode cL_law 1026 = .ok (.iadd, 1) := by decide +kernel
theorem dL_law_1027 : decode cL_law 1027 = .ok (.iaload, 1) := by decide +kernel
theorem dL_law_1028 : decode cL_law 1028 = .ok (.aload_n 0, 1) := by decide +kernel
theorem dL_law_1029 : decode cL_law 1029 = .ok (.iload_n 3, 1) := by decide +kernel
theorem dL_law_1030 : decode cL_law 1030 = .ok (.iconst 2, 1) := by decide +kernel
theorem dL_law_1031 : decode cL_law 1031 = .ok (.iadd, 1) := by decide +kernel
theorem dL_law_1032 : decode cL_law 1032 = .ok (.iaload, 1) := by decide +kernel
theorem dL_law_1033 : decode cL_law 1033 = .ok (.invokevirtual 116, 3) := by decide +kernel
theorem dL_law_1036 : decode cL_law 1036 = .ok (.if_icmp .eq 1176, 3) := by decide +kernel
theorem dL_law_1041 : decode cL_law 1041 = .ok (.aload_n 1, 1) := by decide +kernel
theorem dL_law_1042 : decode cL_law 1042 = .ok (.aload_n 0, 1) := by decide +kernel
theorem dL_law_1043 : decode cL_law 1043 = .ok (.iload_n 3, 1) := by decide +kernel
theorem dL_law_1044 : decode cL_law 1044 = .ok (.iconst 1, 1) := by decide +kernel
theorem dL_law_1045 : decode cL_law 1045 = .ok (.iadd, 1) := by decide +kernel
theorem dL_law_1046 : decode cL_law 1046 = .ok (.iaload, 1) := by decide +kernel
theorem dL_law_1047 : decode cL_law 1047 = .ok (.aload_n 0, 1) := by decide +kernel
theorem dL_law_1048 : decode cL_law 1048 = .ok (.iload_n 3, 1) := by decide +kernel
theorem dL_law_1049 : decode cL_law 1049 = .ok (.iconst 2, 1) := by decide +kernel
theorem dL_law_1050 : decode cL_law 1050 = .ok (.iadd, 1) := by decide +kernel
theorem dL_law_1051 : decode cL_law 1051 = .ok (.iaload, 1) := by decide +kernel
theorem dL_law_1052 : decode cL_law 1052 = .ok (.aload_n 0, 1) := by decide +kernel
theorem dL_law_1053 : decode cL_law 1053 = .ok (.iload_n 3, 1) := by decide +kernel
theorem dL_law_1054 : decode cL_law 1054 = .ok (.iconst 3, 1) := by decide +kernel
theorem dL_law_1055 : decode cL_law 1055 = .ok (.iadd, 1) := by decide +kernel
theorem dL_law_1056 : decode cL_law 1056 = .ok (.iaload, 1) := by decide +kernel
theorem dL_law_1057 : decode cL_law 1057 = .ok (.invokevirtual 117, 3) := by decide +kernel
theorem dL_law_1060 : decode cL_law 1060 = .ok (.aload_n 2, 1) := by decide +kernel
theorem dL_law_1061 : decode cL_law 1061 = .ok (.aload_n 0, 1) := by decide +kernel
theorem dL_law_1062 : decode cL_law 1062 = .ok (.iload_n 3, 1) := by decide +kernel
theorem dL_law_1063 : decode cL_law 1063 = .ok (.iconst 1, 1) := by decide +kernel
theorem dL_law_1064 : decode cL_law 1064 = .ok (.iadd, 1) := by decide +kernel
theorem dL_law_1065 : decode cL_law 1065 = .ok (.iaload, 1) := by decide +kernel
theorem dL_law_1066 : decode cL_law 1066 = .ok (.aload_n 0, 1) := by decide +kernel
theorem dL_law_1067 : decode cL_law 1067 = .ok (.iload_n 3, 1) := by decide +kernel
theorem dL_law_1068 : decode cL_law 1068 = .ok (.iconst 2, 1) := by decide +kernel
theorem dL_law_1069 : decode cL_law 1069 = .ok (.iadd, 1) := by decide +kernel
theorem dL_law_1070 : decode cL_law 1070 = .ok (.iaload, 1) := by decide +kernel
theorem dL_law_1071 : decode cL_law 1071 = .ok (.aload_n 0, 1) := by decide +kernel
theorem dL_law_1072 : decode cL_law 1072 = .ok (.iload_n 3, 1) := by decide +kernel
theorem dL_law_1073 : decode cL_law 1073 = .ok (.iconst 3, 1) := by decide +kernel
theorem dL_law_1074 : decode cL_law 1074 = .ok (.iadd, 1) := by decide +kernel
theorem dL_law_1075 : decode cL_law 1075 = .ok (.iaload, 1) := by decide +kernel
theorem dL_law_1076 : decode cL_law 1076 = .ok (.invokevirtual 121, 3) := by decide +kernel
theorem dL_law_1079 : decode cL_law 1079 = .ok (.if_icmp .eq 1133, 3) := by decide +kernel
theorem dL_law_1084 : decode cL_law 1084 = .ok (.aload_n 1, 1) := by decide +kernel
theorem dL_law_1085 : decode cL_law 1085 = .ok (.aload_n 0, 1) := by decide +kernel
theorem dL_law_1086 : decode cL_law 1086 = .ok (.iload_n 3, 1) := by decide +kernel
theorem dL_law_1087 : decode cL_law 1087 = .ok (.iconst 1, 1) := by decide +kernel
theorem dL_law_1088 : decode cL_law 1088 = .ok (.iadd, 1) := by decide +kernel
theorem dL_law_1089 : decode cL_law 1089 = .ok (.iaload, 1) := by decide +kernel
theorem dL_law_1090 : decode cL_law 1090 = .ok (.invokevirtual 122, 3) := by decide +kernel
theorem dL_law_1093 : decode cL_law 1093 = .ok (.aload_n 2, 1) := by decide +kernel
theorem dL_law_1094 : decode cL_law 1094 = .ok (.aload_n 0, 1) := by decide +kernel
theorem dL_law_1095 : decode cL_law 1095 = .ok (.iload_n 3, 1) := by decide +kernel
theorem dL_law_1096 : decode cL_law 1096 = .ok (.iconst 1, 1) := by decide +kernel
theorem dL_law_1097 : decode cL_law 1097 = .ok (.iadd, 1) := by decide +kernel
theorem dL_law_1098 : decode cL_law 1098 = .ok (.iaload, 1) := by decide +kernel
theorem dL_law_1099 : decode cL_law 1099 = .ok (.invokevirtual 125, 3) := by decide +kernel
theorem dL_law_1102 : decode cL_law 1102 = .ok (.if_icmp .eq 1110, 3) := by decide +kernel
theorem dL_law_1107 : decode cL_law 1107 = .ok (.aload_n 1, 1) := by decide +kernel
theorem dL_law_1108 : decode cL_law 1108 = .ok (.aload_n 0, 1) := by decide +kernel
theorem dL_law_1109 : decode cL_law 1109 = .ok (.iload_n 3, 1) := by decide +kernel
theorem dL_law_1110 : decode cL_law 1110 = .ok (.iconst 1, 1) := by decide +kernel
theorem dL_law_1111 : decode cL_law 1111 = .ok (.iadd, 1) := by decide +kernel
theorem dL_law_1112 : decode cL_law 1112 = .ok (.iaload, 1) := by decide +kernel
theorem dL_law_1113 : decode cL_law 1113 = .ok (.aload_n 0, 1) := by decide +kernel
theorem dL_law_1114 : decode cL_law 1114 = .ok (.iload_n 3, 1) := by decide +kernel
theorem dL_law_1115 : decode cL_law 1115 = .ok (.iconst 2, 1) := by decide +kernel
theorem dL_law_1116 : decode cL_law 1116 = .ok (.iadd, 1) := by decide +kernel
theorem dL_law_1117 : decode cL_law 1117 = .ok (.iaload, 1) := by decide +kernel
theorem dL_law_1118 : decode cL_law 1118 = .ok (.invokevirtual 126, 3) := by decide +kernel
theorem dL_law_1121 : decode cL_law 1121 = .ok (.aload_n 2, 1) := by decide +kernel
theorem dL_law_1122 : decode cL_law 1122 = .ok (.aload_n 0, 1) := by decide +kernel
theorem dL_law_1123 : decode cL_law 1123 = .ok (.iload_n 3, 1) := by decide +kernel
theorem dL_law_1124 : decode cL_law 1124 = .ok (.iconst 1, 1) := by decide +kernel
theorem dL_law_1125 : decode cL_law 1125 = .ok (.iadd, 1) := by decide +kernel
theorem dL_law_1126 : decode cL_law 1126 = .ok (.iaload, 1) := by decide +kernel
theorem dL_law_1127 : decode cL_law 1127 = .ok (.aload_n 0, 1) := by decide +kernel
theorem dL_law_1128 : decode cL_law 1128 = .ok (.iload_n 3, 1) := by decide +kernel
theorem dL_law_1129 : decode cL_law 1129 = .ok (.iconst 2, 1) := by decide +kernel
theorem dL_law_1130 : decode cL_law 1130 = .ok (.iadd, 1) := by decide +kernel
theorem dL_law_1131 : decode cL_law 1131 = .ok (.iaload, 1) := by decide +kernel
theorem dL_law_1132 : decode cL_law 1132 = .ok (.invokevirtual 129, 3) := by decide +kernel
theorem dL_law_1135 : decode cL_law 1135 = .ok (.if_icmp .eq 1077, 3) := by decide +kernel
theorem dL_law_1140 : decode cL_law 1140 = .ok (.aload_n 1, 1) := by decide +kernel
theorem dL_law_1141 : decode cL_law 1141 = .ok (.invokevirtual 130, 3) := by decide +kernel
theorem dL_law_1144 : decode cL_law 1144 = .ok (.aload_n 2, 1) := by decide +kernel
theorem dL_law_1145 : decode cL_law 1145 = .ok (.invokevirtual 133, 3) := by decide +kernel
theorem dL_law_1148 : decode cL_law 1148 = .ok (.if_icmp .eq 1064, 3) := by decide +kernel
theorem dL_law_1153 : decode cL_law 1153 = .ok (.aload_n 1, 1) := by decide +kernel
theorem dL_law_1154 : decode cL_law 1154 = .ok (.aload_n 0, 1) := by decide +kernel
theorem dL_law_1155 : decode cL_law 1155 = .ok (.iload_n 3, 1) := by decide +kernel
theorem dL_law_1156 : decode cL_law 1156 = .ok (.iconst 1, 1) := by decide +kernel
theorem dL_law_1157 : decode cL_law 1157 = .ok (.iadd, 1) := by decide +kernel
theorem dL_law_1158 : decode cL_law 1158 = .ok (.iaload, 1) := by decide +kernel
theorem dL_law_1159 : decode cL_law 1159 = .ok (.aload_n 0, 1) := by decide +kernel
theorem dL_law_1160 : decode cL_law 1160 = .ok (.iload_n 3, 1) := by decide +kernel
theorem dL_law_1161 : decode cL_law 1161 = .ok (.iconst 2, 1) := by decide +kernel
theorem dL_law_1162 : decode cL_law 1162 = .ok (.iadd, 1) := by decide +kernel
theorem dL_law_1163 : decode cL_law 1163 = .ok (.iaload, 1) := by decide +kernel
theorem dL_law_1164 : decode cL_law 1164 = .ok (.invokevirtual 134, 3) := by decide +kernel
theorem dL_law_1167 : decode cL_law 1167 = .ok (.aload_n 2, 1) := by decide +kernel
theorem dL_law_1168 : decode cL_law 1168 = .ok (.aload_n 0, 1) := by decide +kernel
theorem dL_law_1169 : decode cL_law 1169 = .ok (.iload_n 3, 1) := by decide +kernel
theorem dL_law_1170 : decode cL_law 1170 = .ok (.iconst 1, 1) := by decide +kernel
theorem dL_law_1171 : decode cL_law 1171 = .ok (.iadd, 1) := by decide +kernel
theorem dL_law_1172 : decode cL_law 1172 = .ok (.iaload, 1) := by decide +kernel
theorem dL_law_1173 : decode cL_law 1173 = .ok (.aload_n 0, 1) := by decide +kernel
theorem dL_law_1174 : decode cL_law 1174 = .ok (.iload_n 3, 1) := by decide +kernel
theorem dL_law_1175 : decode cL_law 1175 = .ok (.iconst 2, 1) := by decide +kernel
theorem dL_law_1176 : decode cL_law 1176 = .ok (.iadd, 1) := by decide +kernel
theorem dL_law_1177 : decode cL_law 1177 = .ok (.iaload, 1) := by decide +kernel
theorem dL_law_1178 : decode cL_law 1178 = .ok (.invokevirtual 137, 3) := by decide +kernel
theorem dL_law_1181 : decode cL_law 1181 = .ok (.if_icmp .eq 1031, 3) := by decide +kernel
theorem dL_law_1186 : decode cL_law 1186 = .ok (.aload_n 1, 1) := by decide +kernel
theorem dL_law_1187 : decode cL_law 1187 = .ok (.aload_n 0, 1) := by decide +kernel
theorem dL_law_1188 : decode cL_law 1188 = .ok (.iload_n 3, 1) := by decide +kernel
theorem dL_law_1189 : decode cL_law 1189 = .ok (.iconst 1, 1) := by decide +kernel
theorem dL_law_1190 : decode cL_law 1190 = .ok (.iadd, 1) := by decide +kernel
theorem dL_law_1191 : decode cL_law 1191 = .ok (.iaload, 1) := by decide +kernel
theorem dL_law_1192 : decode cL_law 1192 = .ok (.aload_n 0, 1) := by decide +kernel
theorem dL_law_1193 : decode cL_law 1193 = .ok (.iload_n 3, 1) := by decide +kernel
theorem dL_law_1194 : decode cL_law 1194 = .ok (.iconst 2, 1) := by decide +kernel
theorem dL_law_1195 : decode cL_law 1195 = .ok (.iadd, 1) := by decide +kernel
theorem dL_law_1196 : decode cL_law 1196 = .ok (.iaload, 1) := by decide +kernel
theorem dL_law_1197 : decode cL_law 1197 = .ok (.invokevirtual 138, 3) := by decide +kernel
theorem dL_law_1200 : decode cL_law 1200 = .ok (.aload_n 2, 1) := by decide +kernel
theorem dL_law_1201 : decode cL_law 1201 = .ok (.aload_n 0, 1) := by decide +kernel
theorem dL_law_1202 : decode cL_law 1202 = .ok (.iload_n 3, 1) := by decide +kernel
theorem dL_law_1203 : decode cL_law 1203 = .ok (.iconst 1, 1) := by decide +kernel
theorem dL_law_1204 : decode cL_law 1204 = .ok (.iadd, 1) := by decide +kernel
theorem dL_law_1205 : decode cL_law 1205 = .ok (.iaload, 1) := by decide +kernel
theorem dL_law_1206 : decode cL_law 1206 = .ok (.aload_n 0, 1) := by decide +kernel
theorem dL_law_1207 : decode cL_law 1207 = .ok (.iload_n 3, 1) := by decide +kernel
theorem dL_law_1208 : decode cL_law 1208 = .ok (.iconst 2, 1) := by decide +kernel
theorem dL_law_1209 : decode cL_law 1209 = .ok (.iadd, 1) := by decide +kernel
theorem dL_law_1210 : decode cL_law 1210 = .ok (.iaload, 1) := by decide +kernel
theorem dL_law_1211 : decode cL_law 1211 = .ok (.invokevirtual 141, 3) := by decide +kernel
theorem dL_law_1214 : decode cL_law 1214 = .ok (.if_icmp .eq 998, 3) := by decide +kernel
theorem dL_law_1219 : decode cL_law 1219 = .ok (.aload_n 1, 1) := by decide +kernel
theorem dL_law_1220 : decode cL_law 1220 = .ok (.aload_n 0, 1) := by decide +kernel
theorem dL_law_1221 : decode cL_law 1221 = .ok (.iload_n 3, 1) := by decide +kernel
theorem dL_law_1222 : decode cL_law 1222 = .ok (.iconst 1, 1) := by decide +kernel
theorem dL_law_1223 : decode cL_law 1223 = .ok (.iadd, 1) := by decide +kernel
theorem dL_law_1224 : decode cL_law 1224 = .ok (.iaload, 1) := by decide +kernel
theorem dL_law_1225 : decode cL_law 1225 = .ok (.aload_n 0, 1) := by decide +kernel
theorem dL_law_1226 : decode cL_law 1226 = .ok (.iload_n 3, 1) := by decide +kernel
theorem dL_law_1227 : decode cL_law 1227 = .ok (.iconst 2, 1) := by decide +kernel
theorem dL_law_1228 : decode cL_law 1228 = .ok (.iadd, 1) := by decide +kernel
theorem dL_law_1229 : decode cL_law 1229 = .ok (.iaload, 1) := by decide +kernel
theorem dL_law_1230 : decode cL_law 1230 = .ok (.invokevirtual 142, 3) := by decide +kernel
theorem dL_law_1233 : decode cL_law 1233 = .ok (.aload_n 2, 1) := by decide +kernel
theorem dL_law_1234 : decode cL_law 1234 = .ok (.aload_n 0, 1) := by decide +kernel
theorem dL_law_1235 : decode cL_law 1235 = .ok (.iload_n 3, 1) := by decide +kernel
theorem dL_law_1236 : decode cL_law 1236 = .ok (.iconst 1, 1) := by decide +kernel
theorem dL_law_1237 : decode cL_law 1237 = .ok (.iadd, 1) := by decide +kernel
theorem dL_law_1238 : decode cL_law 1238 = .ok (.iaload, 1) := by decide +kernel
theorem dL_law_1239 : decode cL_law 1239 = .ok (.aload_n 0, 1) := by decide +kernel
theorem dL_law_1240 : decode cL_law 1240 = .ok (.iload_n 3, 1) := by decide +kernel
theorem dL_law_1241 : decode cL_law 1241 = .ok (.iconst 2, 1) := by decide +kernel
theorem dL_law_1242 : decode cL_law 1242 = .ok (.iadd, 1) := by decide +kernel
theorem dL_law_1243 : decode cL_law 1243 = .ok (.iaload, 1) := by decide +kernel
theorem dL_law_1244 : decode cL_law 1244 = .ok (.invokevirtual 145, 3) := by decide +kernel
theorem dL_law_1247 : decode cL_law 1247 = .ok (.if_icmp .eq 965, 3) := by decide +kernel
theorem dL_law_1252 : decode cL_law 1252 = .ok (.aload_n 1, 1) := by decide +kernel
theorem dL_law_1253 : decode cL_law 1253 = .ok (.aload_n 0, 1) := by decide +kernel
theorem dL_law_1254 : decode cL_law 1254 = .ok (.iload_n 3, 1) := by decide +kernel
theorem dL_law_1255 : decode cL_law 1255 = .ok (.iconst 1, 1) := by decide +kernel
theorem dL_law_1256 : decode cL_law 1256 = .ok (.iadd, 1) := by decide +kernel
theorem dL_law_1257 : decode cL_law 1257 = .ok (.iaload, 1) := by decide +kernel
theorem dL_law_1258 : decode cL_law 1258 = .ok (.invokevirtual 146, 3) := by decide +kernel
theorem dL_law_1261 : decode cL_law 1261 = .ok (.aload_n 2, 1) := by decide +kernel
theorem dL_law_1262 : decode cL_law 1262 = .ok (.aload_n 0, 1) := by decide +kernel
theorem dL_law_1263 : decode cL_law 1263 = .ok (.iload_n 3, 1) := by decide +kernel
theorem dL_law_1264 : decode cL_law 1264 = .ok (.iconst 1, 1) := by decide +kernel
theorem dL_law_1265 : decode cL_law 1265 = .ok (.iadd, 1) := by decide +kernel
theorem dL_law_1266 : decode cL_law 1266 = .ok (.iaload, 1) := by decide +kernel
theorem dL_law_1267 : decode cL_law 1267 = .ok (.invokevirtual 149, 3) := by decide +kernel
theorem dL_law_1270 : decode cL_law 1270 = .ok (.if_icmp .eq 942, 3) := by decide +kernel
theorem dL_law_1275 : decode cL_law 1275 = .ok (.aload_n 1, 1) := by decide +kernel
theorem dL_law_1276 : decode cL_law 1276 = .ok (.aload_n 0, 1) := by decide +kernel
theorem dL_law_1277 : decode cL_law 1277 = .ok (.iload_n 3, 1) := by decide +kernel
theorem dL_law_1278 : decode cL_law 1278 = .ok (.iconst 1, 1) := by decide +kernel
theorem dL_law_1279 : decode cL_law 1279 = .ok (.iadd, 1) := by decide +kernel
theorem dL_law_1280 : decode cL_law 1280 = .ok (.iaload, 1) := by decide +kernel
theorem dL_law_1281 : decode cL_law 1281 = .ok (.invokevirtual 150, 3) := by decide +kernel
theorem dL_law_1284 : decode cL_law 1284 = .ok (.aload_n 2, 1) := by decide +kernel
theorem dL_law_1285 : decode cL_law 1285 = .ok (.aload_n 0, 1) := by decide +kernel
theorem dL_law_1286 : decode cL_law 1286 = .ok (.iload_n 3, 1) := by decide +kernel
theorem dL_law_1287 : decode cL_law 1287 = .ok (.iconst 1, 1) := by decide +kernel
theorem dL_law_1288 : decode cL_law 1288 = .ok (.iadd, 1) := by decide +kernel
theorem dL_law_1289 : decode cL_law 1289 = .ok (.iaload, 1) := by decide +kernel
theorem dL_law_1290 : decode cL_law 1290 = .ok (.invokevirtual 153, 3) := by decide +kernel
theorem dL_law_1293 : decode cL_law 1293 = .ok (.if_icmp .eq 919, 3) := by decide +kernel
theorem dL_law_1298 : decode cL_law 1298 = .ok (.aload_n 1, 1) := by decide +kernel
theorem dL_law_1299 : decode cL_law 1299 = .ok (.aload_n 0, 1) := by decide +kernel
theorem dL_law_1300 : decode cL_law 1300 = .ok (.iload_n 3, 1) := by decide +kernel
theorem dL_law_1301 : decode cL_law 1301 = .ok (.iconst 1, 1) := by decide +kernel
theorem dL_law_1302 : decode cL_law 1302 = .ok (.iadd, 1) := by decide +kernel
theorem dL_law_1303 : decode cL_law 1303 = .ok (.iaload, 1) := by decide +kernel
theorem dL_law_1304 : decode cL_law 1304 = .ok (.aload_n 0, 1) := by decide +kernel
theorem dL_law_1305 : decode cL_law 1305 = .ok (.iload_n 3, 1) := by decide +kernel
theorem dL_law_1306 : decode cL_law 1306 = .ok (.iconst 2, 1) := by decide +kernel
theorem dL_law_1307 : decode cL_law 1307 = .ok (.iadd, 1) := by decide +kernel
theorem dL_law_1308 : decode cL_law 1308 = .ok (.iaload, 1) := by decide +kernel
theorem dL_law_1309 : decode cL_law 1309 = .ok (.invokevirtual 154, 3) := by decide +kernel
theorem dL_law_1312 : decode cL_law 1312 = .ok (.aload_n 2, 1) := by decide +kernel
theorem dL_law_1313 : decode cL_law 1313 = .ok (.aload_n 0, 1) := by decide +kernel
theorem dL_law_1314 : decode cL_law 1314 = .ok (.iload_n 3, 1) := by decide +kernel
theorem dL_law_1315 : decode cL_law 1315 = .ok (.iconst 1, 1) := by decide +kernel
theorem dL_law_1316 : decode cL_law 1316 = .ok (.iadd, 1) := by decide +kernel
theorem dL_law_1317 : decode cL_law 1317 = .ok (.iaload, 1) := by decide +kernel
theorem dL_law_1318 : decode cL_law 1318 = .ok (.aload_n 0, 1) := by decide +kernel
theorem dL_law_1319 : decode cL_law 1319 = .ok (.iload_n 3, 1) := by decide +kernel
theorem dL_law_1320 : decode cL_law 1320 = .ok (.iconst 2, 1) := by decide +kernel
theorem dL_law_1321 : decode cL_law 1321 = .ok (.iadd, 1) := by decide +kernel
theorem dL_law_1322 : decode cL_law 1322 = .ok (.iaload, 1) := by decide +kernel
theorem dL_law_1323 : decode cL_law 1323 = .ok (.invokevirtual 157, 3) := by decide +kernel
theorem dL_law_1326 : decode cL_law 1326 = .ok (.if_icmp .eq 886, 3) := by decide +kernel
theorem dL_law_1331 : decode cL_law 1331 = .ok (.aload_n 1, 1) := by decide +kernel
theorem dL_law_1332 : decode cL_law 1332 = .ok (.aload_n 0, 1) := by decide +kernel
theorem dL_law_1333 : decode cL_law 1333 = .ok (.iload_n 3, 1) := by decide +kernel
theorem dL_law_1334 : decode cL_law 1334 = .ok (.iconst 1, 1) := by decide +kernel
theorem dL_law_1335 : decode cL_law 1335 = .ok (.iadd, 1) := by decide +kernel
theorem dL_law_1336 : decode cL_law 1336 = .ok (.iaload, 1) := by decide +kernel
theorem dL_law_1337 : decode cL_law 1337 = .ok (.aload_n 0, 1) := by decide +kernel
theorem dL_law_1338 : decode cL_law 1338 = .ok (.iload_n 3, 1) := by decide +kernel
theorem dL_law_1339 : decode cL_law 1339 = .ok (.iconst 2, 1) := by decide +kernel
theorem dL_law_1340 : decode cL_law 1340 = .ok (.iadd, 1) := by decide +kernel
theorem dL_law_1341 : decode cL_law 1341 = .ok (.iaload, 1) := by decide +kernel
theorem dL_law_1342 : decode cL_law 1342 = .ok (.invokevirtual 158, 3) := by decide +kernel
theorem dL_law_1345 : decode cL_law 1345 = .ok (.aload_n 2, 1) := by decide +kernel
theorem dL_law_1346 : decode cL_law 1346 = .ok (.aload_n 0, 1) := by decide +kernel
theorem dL_law_1347 : decode cL_law 1347 = .ok (.iload_n 3, 1) := by decide +kernel
theorem dL_law_1348 : decode cL_law 1348 = .ok (.iconst 1, 1) := by decide +kernel
theorem dL_law_1349 : decode cL_law 1349 = .ok (.iadd, 1) := by decide +kernel
theorem dL_law_1350 : decode cL_law 1350 = .ok (.iaload, 1) := by decide +kernel
theorem dL_law_1351 : decode cL_law 1351 = .ok (.aload_n 0, 1) := by decide +kernel
theorem dL_law_1352 : decode cL_law 1352 = .ok (.iload_n 3, 1) := by decide +kernel
theorem dL_law_1353 : decode cL_law 1353 = .ok (.iconst 2, 1) := by decide +kernel
theorem dL_law_1354 : decode cL_law 1354 = .ok (.iadd, 1) := by decide +kernel
theorem dL_law_1355 : decode cL_law 1355 = .ok (.iaload, 1) := by decide +kernel
theorem dL_law_1356 : decode cL_law 1356 = .ok (.invokevirtual 161, 3) := by decide +kernel
theorem dL_law_1359 : decode cL_law 1359 = .ok (.if_icmp .eq 853, 3) := by decide +kernel
theorem dL_law_1364 : decode cL_law 1364 = .ok (.aload_n 1, 1) := by decide +kernel
theorem dL_law_1365 : decode cL_law 1365 = .ok (.aload_n 0, 1) := by decide +kernel
theorem dL_law_1366 : decode cL_law 1366 = .ok (.iload_n 3, 1) := by decide +kernel
theorem dL_law_1367 : decode cL_law 1367 = .ok (.iconst 1, 1) := by decide +kernel
theorem dL_law_1368 : decode cL_law 1368 = .ok (.iadd, 1) := by decide +kernel
theorem dL_law_1369 : decode cL_law 1369 = .ok (.iaload, 1) := by decide +kernel
theorem dL_law_1370 : decode cL_law 1370 = .ok (.invokevirtual 162, 3) := by decide +kernel
theorem dL_law_1373 : decode cL_law 1373 = .ok (.aload_n 2, 1) := by decide +kernel
theorem dL_law_1374 : decode cL_law 1374 = .ok (.aload_n 0, 1) := by decide +kernel
theorem dL_law_1375 : decode cL_law 1375 = .ok (.iload_n 3, 1) := by decide +kernel
theorem dL_law_1376 : decode cL_law 1376 = .ok (.iconst 1, 1) := by decide +kernel
theorem dL_law_1377 : decode cL_law 1377 = .ok (.iadd, 1) := by decide +kernel
theorem dL_law_1378 : decode cL_law 1378 = .ok (.iaload, 1) := by decide +kernel
theorem dL_law_1379 : decode cL_law 1379 = .ok (.invokevirtual 165, 3) := by decide +kernel
theorem dL_law_1382 : decode cL_law 1382 = .ok (.if_icmp .eq 830, 3) := by decide +kernel
theorem dL_law_1387 : decode cL_law 1387 = .ok (.aload_n 1, 1) := by decide +kernel
theorem dL_law_1388 : decode cL_law 1388 = .ok (.aload_n 0, 1) := by decide +kernel
theorem dL_law_1389 : decode cL_law 1389 = .ok (.iload_n 3, 1) := by decide +kernel
theorem dL_law_1390 : decode cL_law 1390 = .ok (.iconst 1, 1) := by decide +kernel
theorem dL_law_1391 : decode cL_law 1391 = .ok (.iadd, 1) := by decide +kernel
theorem dL_law_1392 : decode cL_law 1392 = .ok (.iaload, 1) := by decide +kernel
theorem dL_law_1393 : decode cL_law 1393 = .ok (.invokevirtual 166, 3) := by decide +kernel
theorem dL_law_1396 : decode cL_law 1396 = .ok (.aload_n 2, 1) := by decide +kernel
theorem dL_law_1397 : decode cL_law 1397 = .ok (.aload_n 0, 1) := by decide +kernel
theorem dL_law_1398 : decode cL_law 1398 = .ok (.iload_n 3, 1) := by decide +kernel
theorem dL_law_1399 : decode cL_law 1399 = .ok (.iconst 1, 1) := by decide +kernel
theorem dL_law_1400 : decode cL_law 1400 = .ok (.iadd, 1) := by decide +kernel
theorem dL_law_1401 : decode cL_law 1401 = .ok (.iaload, 1) := by decide +kernel
theorem dL_law_1402 : decode cL_law 1402 = .ok (.invokevirtual 169, 3) := by decide +kernel
theorem dL_law_1405 : decode cL_law 1405 = .ok (.if_icmp .eq 807, 3) := by decide +kernel
theorem dL_law_1410 : decode cL_law 1410 = .ok (.aload_n 1, 1) := by decide +kernel
theorem dL_law_1411 : decode cL_law 1411 = .ok (.aload_n 0, 1) := by decide +kernel
theorem dL_law_1412 : decode cL_law 1412 = .ok (.iload_n 3, 1) := by decide +kernel
theorem dL_law_1413 : decode cL_law 1413 = .ok (.iconst 1, 1) := by decide +kernel
theorem dL_law_1414 : decode cL_law 1414 = .ok (.iadd, 1) := by decide +kernel
theorem dL_law_1415 : decode cL_law 1415 = .ok (.iaload, 1) := by decide +kernel
theorem dL_law_1416 : decode cL_law 1416 = .ok (.invokevirtual 170, 3) := by decide +kernel
theorem dL_law_1419 : decode cL_law 1419 = .ok (.aload_n 2, 1) := by decide +kernel
theorem dL_law_1420 : decode cL_law 1420 = .ok (.aload_n 0, 1) := by decide +kernel
theorem dL_law_1421 : decode cL_law 1421 = .ok (.iload_n 3, 1) := by decide +kernel
theorem dL_law_1422 : decode cL_law 1422 = .ok (.iconst 1, 1) := by decide +kernel
theorem dL_law_1423 : decode cL_law 1423 = .ok (.iadd, 1) := by decide +kernel
theorem dL_law_1424 : decode cL_law 1424 = .ok (.iaload, 1) := by decide +kernel
theorem dL_law_1425 : decode cL_law 1425 = .ok (.invokevirtual 173, 3) := by decide +kernel
theorem dL_law_1428 : decode cL_law 1428 = .ok (.if_icmp .eq 784, 3) := by decide +kernel
theorem dL_law_1433 : decode cL_law 1433 = .ok (.aload_n 1, 1) := by decide +kernel
theorem dL_law_1434 : decode cL_law 1434 = .ok (.aload_n 0, 1) := by decide +kernel
theorem dL_law_1435 : decode cL_law 1435 = .ok (.iload_n 3, 1) := by decide +kernel
theorem dL_law_1436 : decode cL_law 1436 = .ok (.iconst 1, 1) := by decide +kernel
theorem dL_law_1437 : decode cL_law 1437 = .ok (.iadd, 1) := by decide +kernel
theorem dL_law_1438 : decode cL_law 1438 = .ok (.iaload, 1) := by decide +kernel
theorem dL_law_1439 : decode cL_law 1439 = .ok (.aload_n 0, 1) := by decide +kernel
theorem dL_law_1440 : decode cL_law 1440 = .ok (.iload_n 3, 1) := by decide +kernel
theorem dL_law_1441 : decode cL_law 1441 = .ok (.iconst 2, 1) := by decide +kernel
theorem dL_law_1442 : decode cL_law 1442 = .ok (.iadd, 1) := by decide +kernel
theorem dL_law_1443 : decode cL_law 1443 = .ok (.iaload, 1) := by decide +kernel
theorem dL_law_1444 : decode cL_law 1444 = .ok (.invokevirtual 174, 3) := by decide +kernel
theorem dL_law_1447 : decode cL_law 1447 = .ok (.aload_n 2, 1) := by decide +kernel
theorem dL_law_1448 : decode cL_law 1448 = .ok (.aload_n 0, 1) := by decide +kernel
theorem dL_law_1449 : decode cL_law 1449 = .ok (.iload_n 3, 1) := by decide +kernel
theorem dL_law_1450 : decode cL_law 1450 = .ok (.iconst 1, 1) := by decide +kernel
theorem dL_law_1451 : decode cL_law 1451 = .ok (.iadd, 1) := by decide +kernel
theorem dL_law_1452 : decode cL_law 1452 = .ok (.iaload, 1) := by decide +kernel
theorem dL_law_1453 : decode cL_law 1453 = .ok (.aload_n 0, 1) := by decide +kernel
theorem dL_law_1454 : decode cL_law 1454 = .ok (.iload_n 3, 1) := by decide +kernel
theorem dL_law_1455 : decode cL_law 1455 = .ok (.iconst 2, 1) := by decide +kernel
theorem dL_law_1456 : decode cL_law 1456 = .ok (.iadd, 1) := by decide +kernel
theorem dL_law_1457 : decode cL_law 1457 = .ok (.iaload, 1) := by decide +kernel
theorem dL_law_1458 : decode cL_law 1458 = .ok (.invokevirtual 177, 3) := by decide +kernel
theorem dL_law_1461 : decode cL_law 1461 = .ok (.if_icmp .eq 751, 3) := by decide +kernel
theorem dL_law_1466 : decode cL_law 1466 = .ok (.aload_n 1, 1) := by decide +kernel
theorem dL_law_1467 : decode cL_law 1467 = .ok (.aload_n 0, 1) := by decide +kernel
theorem dL_law_1468 : decode cL_law 1468 = .ok (.iload_n 3, 1) := by decide +kernel
theorem dL_law_1469 : decode cL_law 1469 = .ok (.iconst 1, 1) := by decide +kernel
theorem dL_law_1470 : decode cL_law 1470 = .ok (.iadd, 1) := by decide +kernel
theorem dL_law_1471 : decode cL_law 1471 = .ok (.iaload, 1) := by decide +kernel
theorem dL_law_1472 : decode cL_law 1472 = .ok (.invokevirtual 178, 3) := by decide +kernel
theorem dL_law_1475 : decode cL_law 1475 = .ok (.aload_n 2, 1) := by decide +kernel
theorem dL_law_1476 : decode cL_law 1476 = .ok (.aload_n 0, 1) := by decide +kernel
theorem dL_law_1477 : decode cL_law 1477 = .ok (.iload_n 3, 1) := by decide +kernel
theorem dL_law_1478 : decode cL_law 1478 = .ok (.iconst 1, 1) := by decide +kernel
theorem dL_law_1479 : decode cL_law 1479 = .ok (.iadd, 1) := by decide +kernel
theorem dL_law_1480 : decode cL_law 1480 = .ok (.iaload, 1) := by decide +kernel
theorem dL_law_1481 : decode cL_law 1481 = .ok (.invokevirtual 181, 3) := by decide +kernel
theorem dL_law_1484 : decode cL_law 1484 = .ok (.if_icmp .eq 728, 3) := by decide +kernel
theorem dL_law_1489 : decode cL_law 1489 = .ok (.aload_n 1, 1) := by decide +kernel
theorem dL_law_1490 : decode cL_law 1490 = .ok (.invokevirtual 182, 3) := by decide +kernel
theorem dL_law_1493 : decode cL_law 1493 = .ok (.aload_n 2, 1) := by decide +kernel
theorem dL_law_1494 : decode cL_law 1494 = .ok (.invokevirtual 185, 3) := by decide +kernel
theorem dL_law_1497 : decode cL_law 1497 = .ok (.if_icmp .eq 715, 3) := by decide +kernel
theorem dL_law_1502 : decode cL_law 1502 = .ok (.aload_n 1, 1) := by decide +kernel
theorem dL_law_1503 : decode cL_law 1503 = .ok (.aload_n 0, 1) := by decide +kernel
theorem dL_law_1504 : decode cL_law 1504 = .ok (.iload_n 3, 1) := by decide +kernel
theorem dL_law_1505 : decode cL_law 1505 = .ok (.iconst 1, 1) := by decide +kernel
theorem dL_law_1506 : decode cL_law 1506 = .ok (.iadd, 1) := by decide +kernel
theorem dL_law_1507 : decode cL_law 1507 = .ok (.iaload, 1) := by decide +kernel
theorem dL_law_1508 : decode cL_law 1508 = .ok (.aload_n 0, 1) := by decide +kernel
theorem dL_law_1509 : decode cL_law 1509 = .ok (.iload_n 3, 1) := by decide +kernel
theorem dL_law_1510 : decode cL_law 1510 = .ok (.iconst 2, 1) := by decide +kernel
theorem dL_law_1511 : decode cL_law 1511 = .ok (.iadd, 1) := by decide +kernel
theorem dL_law_1512 : decode cL_law 1512 = .ok (.iaload, 1) := by decide +kernel
theorem dL_law_1513 : decode cL_law 1513 = .ok (.invokevirtual 186, 3) := by decide +kernel
theorem dL_law_1516 : decode cL_law 1516 = .ok (.aload_n 2, 1) := by decide +kernel
theorem dL_law_1517 : decode cL_law 1517 = .ok (.aload_n 0, 1) := by decide +kernel
theorem dL_law_1518 : decode cL_law 1518 = .ok (.iload_n 3, 1) := by decide +kernel
theorem dL_law_1519 : decode cL_law 1519 = .ok (.iconst 1, 1) := by decide +kernel
theorem dL_law_1520 : decode cL_law 1520 = .ok (.iadd, 1) := by decide +kernel
theorem dL_law_1521 : decode cL_law 1521 = .ok (.iaload, 1) := by decide +kernel
theorem dL_law_1522 : decode cL_law 1522 = .ok (.aload_n 0, 1) := by decide +kernel
theorem dL_law_1523 : decode cL_law 1523 = .ok (.iload_n 3, 1) := by decide +kernel
theorem dL_law_1524 : decode cL_law 1524 = .ok (.iconst 2, 1) := by decide +kernel
theorem dL_law_1525 : decode cL_law 1525 = .ok (.iadd, 1) := by decide +kernel
theorem dL_law_1526 : decode cL_law 1526 = .ok (.iaload, 1) := by decide +kernel
theorem dL_law_1527 : decode cL_law 1527 = .ok (.invokevirtual 189, 3) := by decide +kernel
theorem dL_law_1530 : decode cL_law 1530 = .ok (.if_icmp .eq 682, 3) := by decide +kernel
theorem dL_law_1535 : decode cL_law 1535 = .ok (.aload_n 1, 1) := by decide +kernel
theorem dL_law_1536 : decode cL_law 1536 = .ok (.aload_n 0, 1) := by decide +kernel
theorem dL_law_1537 : decode cL_law 1537 = .ok (.iload_n 3, 1) := by decide +kernel
theorem dL_law_1538 : decode cL_law 1538 = .ok (.iconst 1, 1) := by decide +kernel
theorem dL_law_1539 : decode cL_law 1539 = .ok (.iadd, 1) := by decide +kernel
theorem dL_law_1540 : decode cL_law 1540 = .ok (.iaload, 1) := by decide +kernel
theorem dL_law_1541 : decode cL_law 1541 = .ok (.invokevirtual 190, 3) := by decide +kernel
theorem dL_law_1544 : decode cL_law 1544 = .ok (.aload_n 2, 1) := by decide +kernel
theorem dL_law_1545 : decode cL_law 1545 = .ok (.aload_n 0, 1) := by decide +kernel
theorem dL_law_1546 : decode cL_law 1546 = .ok (.iload_n 3, 1) := by decide +kernel
theorem dL_law_1547 : decode cL_law 1547 = .ok (.iconst 1, 1) := by decide +kernel
theorem dL_law_1548 : decode cL_law 1548 = .ok (.iadd, 1) := by decide +kernel
theorem dL_law_1549 : decode cL_law 1549 = .ok (.iaload, 1) := by decide +kernel
theorem dL_law_1550 : decode cL_law 1550 = .ok (.invokevirtual 193, 3) := by decide +kernel
theorem dL_law_1553 : decode cL_law 1553 = .ok (.if_icmp .eq 659, 3) := by decide +kernel
theorem dL_law_1558 : decode cL_law 1558 = .ok (.aload_n 1, 1) := by decide +kernel
theorem dL_law_1559 : decode cL_law 1559 = .ok (.aload_n 0, 1) := by decide +kernel
theorem dL_law_1560 : decode cL_law 1560 = .ok (.iload_n 3, 1) := by decide +kernel
theorem dL_law_1561 : decode cL_law 1561 = .ok (.iconst 1, 1) := by decide +kernel
theorem dL_law_1562 : decode cL_law 1562 = .ok (.iadd, 1) := by decide +kernel
theorem dL_law_1563 : decode cL_law 1563 = .ok (.iaload, 1) := by decide +kernel
theorem dL_law_1564 : decode cL_law 1564 = .ok (.aload_n 0, 1) := by decide +kernel
theorem dL_law_1565 : decode cL_law 1565 = .ok (.iload_n 3, 1) := by decide +kernel
theorem dL_law_1566 : decode cL_law 1566 = .ok (.iconst 2, 1) := by decide +kernel
theorem dL_law_1567 : decode cL_law 1567 = .ok (.iadd, 1) := by decide +kernel
theorem dL_law_1568 : decode cL_law 1568 = .ok (.iaload, 1) := by decide +kernel
theorem dL_law_1569 : decode cL_law 1569 = .ok (.invokevirtual 194, 3) := by decide +kernel
theorem dL_law_1572 : decode cL_law 1572 = .ok (.aload_n 2, 1) := by decide +kernel
theorem dL_law_1573 : decode cL_law 1573 = .ok (.aload_n 0, 1) := by decide +kernel
theorem dL_law_1574 : decode cL_law 1574 = .ok (.iload_n 3, 1) := by decide +kernel
theorem dL_law_1575 : decode cL_law 1575 = .ok (.iconst 1, 1) := by decide +kernel
theorem dL_law_1576 : decode cL_law 1576 = .ok (.iadd, 1) := by decide +kernel
theorem dL_law_1577 : decode cL_law 1577 = .ok (.iaload, 1) := by decide +kernel
theorem dL_law_1578 : decode cL_law 1578 = .ok (.aload_n 0, 1) := by decide +kernel
theorem dL_law_1579 : decode cL_law 1579 = .ok (.iload_n 3, 1) := by decide +kernel
theorem dL_law_1580 : decode cL_law 1580 = .ok (.iconst 2, 1) := by decide +kernel
theorem dL_law_1581 : decode cL_law 1581 = .ok (.iadd, 1) := by decide +kernel
theorem dL_law_1582 : decode cL_law 1582 = .ok (.iaload, 1) := by decide +kernel
theorem dL_law_1583 : decode cL_law 1583 = .ok (.invokevirtual 197, 3) := by decide +kernel
theorem dL_law_1586 : decode cL_law 1586 = .ok (.if_icmp .eq 626, 3) := by decide +kernel
theorem dL_law_1591 : decode cL_law 1591 = .ok (.aload_n 1, 1) := by decide +kernel
theorem dL_law_1592 : decode cL_law 1592 = .ok (.aload_n 0, 1) := by decide +kernel
theorem dL_law_1593 : decode cL_law 1593 = .ok (.iload_n 3, 1) := by decide +kernel
theorem dL_law_1594 : decode cL_law 1594 = .ok (.iconst 1, 1) := by decide +kernel
theorem dL_law_1595 : decode cL_law 1595 = .ok (.iadd, 1) := by decide +kernel
theorem dL_law_1596 : decode cL_law 1596 = .ok (.iaload, 1) := by decide +kernel
theorem dL_law_1597 : decode cL_law 1597 = .ok (.aload_n 0, 1) := by decide +kernel
theorem dL_law_1598 : decode cL_law 1598 = .ok (.iload_n 3, 1) := by decide +kernel
theorem dL_law_1599 : decode cL_law 1599 = .ok (.iconst 2, 1) := by decide +kernel
theorem dL_law_1600 : decode cL_law 1600 = .ok (.iadd, 1) := by decide +kernel
theorem dL_law_1601 : decode cL_law 1601 = .ok (.iaload, 1) := by decide +kernel
theorem dL_law_1602 : decode cL_law 1602 = .ok (.invokevirtual 198, 3) := by decide +kernel
theorem dL_law_1605 : decode cL_law 1605 = .ok (.aload_n 2, 1) := by decide +kernel
theorem dL_law_1606 : decode cL_law 1606 = .ok (.aload_n 0, 1) := by decide +kernel
theorem dL_law_1607 : decode cL_law 1607 = .ok (.iload_n 3, 1) := by decide +kernel
theorem dL_law_1608 : decode cL_law 1608 = .ok (.iconst 1, 1) := by decide +kernel
theorem dL_law_1609 : decode cL_law 1609 = .ok (.iadd, 1) := by decide +kernel
theorem dL_law_1610 : decode cL_law 1610 = .ok (.iaload, 1) := by decide +kernel
theorem dL_law_1611 : decode cL_law 1611 = .ok (.aload_n 0, 1) := by decide +kernel
theorem dL_law_1612 : decode cL_law 1612 = .ok (.iload_n 3, 1) := by decide +kernel
theorem dL_law_1613 : decode cL_law 1613 = .ok (.iconst 2, 1) := by decide +kernel
theorem dL_law_1614 : decode cL_law 1614 = .ok (.iadd, 1) := by decide +kernel
theorem dL_law_1615 : decode cL_law 1615 = .ok (.iaload, 1) := by decide +kernel
theorem dL_law_1616 : decode cL_law 1616 = .ok (.invokevirtual 201, 3) := by decide +kernel
theorem dL_law_1619 : decode cL_law 1619 = .ok (.if_icmp .eq 593, 3) := by decide +kernel
theorem dL_law_1624 : decode cL_law 1624 = .ok (.aload_n 1, 1) := by decide +kernel
theorem dL_law_1625 : decode cL_law 1625 = .ok (.aload_n 0, 1) := by decide +kernel
theorem dL_law_1626 : decode cL_law 1626 = .ok (.iload_n 3, 1) := by decide +kernel
theorem dL_law_1627 : decode cL_law 1627 = .ok (.iconst 1, 1) := by decide +kernel
theorem dL_law_1628 : decode cL_law 1628 = .ok (.iadd, 1) := by decide +kernel
theorem dL_law_1629 : decode cL_law 1629 = .ok (.iaload, 1) := by decide +kernel
theorem dL_law_1630 : decode cL_law 1630 = .ok (.aload_n 0, 1) := by decide +kernel
theorem dL_law_1631 : decode cL_law 1631 = .ok (.iload_n 3, 1) := by decide +kernel
theorem dL_law_1632 : decode cL_law 1632 = .ok (.iconst 2, 1) := by decide +kernel
theorem dL_law_1633 : decode cL_law 1633 = .ok (.iadd, 1) := by decide +kernel
theorem dL_law_1634 : decode cL_law 1634 = .ok (.iaload, 1) := by decide +kernel
theorem dL_law_1635 : decode cL_law 1635 = .ok (.invokevirtual 202, 3) := by decide +kernel
theorem dL_law_1638 : decode cL_law 1638 = .ok (.aload_n 2, 1) := by decide +kernel
theorem dL_law_1639 : decode cL_law 1639 = .ok (.aload_n 0, 1) := by decide +kernel
theorem dL_law_1640 : decode cL_law 1640 = .ok (.iload_n 3, 1) := by decide +kernel
theorem dL_law_1641 : decode cL_law 1641 = .ok (.iconst 1, 1) := by decide +kernel
theorem dL_law_1642 : decode cL_law 1642 = .ok (.iadd, 1) := by decide +kernel
theorem dL_law_1643 : decode cL_law 1643 = .ok (.iaload, 1) := by decide +kernel
theorem dL_law_1644 : decode cL_law 1644 = .ok (.aload_n 0, 1) := by decide +kernel
theorem dL_law_1645 : decode cL_law 1645 = .ok (.iload_n 3, 1) := by decide +kernel
theorem dL_law_1646 : decode cL_law 1646 = .ok (.iconst 2, 1) := by decide +kernel
theorem dL_law_1647 : decode cL_law 1647 = .ok (.iadd, 1) := by decide +kernel
theorem dL_law_1648 : decode cL_law 1648 = .ok (.iaload, 1) := by decide +kernel
theorem dL_law_1649 : decode cL_law 1649 = .ok (.invokevirtual 205, 3) := by decide +kernel
theorem dL_law_1652 : decode cL_law 1652 = .ok (.if_icmp .eq 560, 3) := by decide +kernel
theorem dL_law_1657 : decode cL_law 1657 = .ok (.aload_n 1, 1) := by decide +kernel
theorem dL_law_1658 : decode cL_law 1658 = .ok (.aload_n 0, 1) := by decide +kernel
theorem dL_law_1659 : decode cL_law 1659 = .ok (.iload_n 3, 1) := by decide +kernel
theorem dL_law_1660 : decode cL_law 1660 = .ok (.iconst 1, 1) := by decide +kernel
theorem dL_law_1661 : decode cL_law 1661 = .ok (.iadd, 1) := by decide +kernel
theorem dL_law_1662 : decode cL_law 1662 = .ok (.iaload, 1) := by decide +kernel
theorem dL_law_1663 : decode cL_law 1663 = .ok (.aload_n 0, 1) := by decide +kernel
theorem dL_law_1664 : decode cL_law 1664 = .ok (.iload_n 3, 1) := by decide +kernel
theorem dL_law_1665 : decode cL_law 1665 = .ok (.iconst 2, 1) := by decide +kernel
theorem dL_law_1666 : decode cL_law 1666 = .ok (.iadd, 1) := by decide +kernel
theorem dL_law_1667 : decode cL_law 1667 = .ok (.iaload, 1) := by decide +kernel
theorem dL_law_1668 : decode cL_law 1668 = .ok (.invokevirtual 206, 3) := by decide +kernel
theorem dL_law_1671 : decode cL_law 1671 = .ok (.aload_n 2, 1) := by decide +kernel
theorem dL_law_1672 : decode cL_law 1672 = .ok (.aload_n 0, 1) := by decide +kernel
theorem dL_law_1673 : decode cL_law 1673 = .ok (.iload_n 3, 1) := by decide +kernel
theorem dL_law_1674 : decode cL_law 1674 = .ok (.iconst 1, 1) := by decide +kernel
theorem dL_law_1675 : decode cL_law 1675 = .ok (.iadd, 1) := by decide +kernel
theorem dL_law_1676 : decode cL_law 1676 = .ok (.iaload, 1) := by decide +kernel
theorem dL_law_1677 : decode cL_law 1677 = .ok (.aload_n 0, 1) := by decide +kernel
theorem dL_law_1678 : decode cL_law 1678 = .ok (.iload_n 3, 1) := by decide +kernel
theorem dL_law_1679 : decode cL_law 1679 = .ok (.iconst 2, 1) := by decide +kernel
theorem dL_law_1680 : decode cL_law 1680 = .ok (.iadd, 1) := by decide +kernel
theorem dL_law_1681 : decode cL_law 1681 = .ok (.iaload, 1) := by decide +kernel
theorem dL_law_1682 : decode cL_law 1682 = .ok (.invokevirtual 209, 3) := by decide +kernel
theorem dL_law_1685 : decode cL_law 1685 = .ok (.if_icmp .eq 527, 3) := by decide +kernel
theorem dL_law_1690 : decode cL_law 1690 = .ok (.aload_n 1, 1) := by decide +kernel
theorem dL_law_1691 : decode cL_law 1691 = .ok (.aload_n 0, 1) := by decide +kernel
theorem dL_law_1692 : decode cL_law 1692 = .ok (.iload_n 3, 1) := by decide +kernel
theorem dL_law_1693 : decode cL_law 1693 = .ok (.iconst 1, 1) := by decide +kernel
theorem dL_law_1694 : decode cL_law 1694 = .ok (.iadd, 1) := by decide +kernel
theorem dL_law_1695 : decode cL_law 1695 = .ok (.iaload, 1) := by decide +kernel
theorem dL_law_1696 : decode cL_law 1696 = .ok (.aload_n 0, 1) := by decide +kernel
theorem dL_law_1697 : decode cL_law 1697 = .ok (.iload_n 3, 1) := by decide +kernel
theorem dL_law_1698 : decode cL_law 1698 = .ok (.iconst 2, 1) := by decide +kernel
theorem dL_law_1699 : decode cL_law 1699 = .ok (.iadd, 1) := by decide +kernel
theorem dL_law_1700 : decode cL_law 1700 = .ok (.iaload, 1) := by decide +kernel
theorem dL_law_1701 : decode cL_law 1701 = .ok (.aload_n 0, 1) := by decide +kernel
theorem dL_law_1702 : decode cL_law 1702 = .ok (.iload_n 3, 1) := by decide +kernel
theorem dL_law_1703 : decode cL_law 1703 = .ok (.iconst 3, 1) := by decide +kernel
theorem dL_law_1704 : decode cL_law 1704 = .ok (.iadd, 1) := by decide +kernel
theorem dL_law_1705 : decode cL_law 1705 = .ok (.iaload, 1) := by decide +kernel
theorem dL_law_1706 : decode cL_law 1706 = .ok (.invokevirtual 210, 3) := by decide +kernel
theorem dL_law_1709 : decode cL_law 1709 = .ok (.aload_n 2, 1) := by decide +kernel
theorem dL_law_1710 : decode cL_law 1710 = .ok (.aload_n 0, 1) := by decide +kernel
theorem dL_law_1711 : decode cL_law 1711 = .ok (.iload_n 3, 1) := by decide +kernel
theorem dL_law_1712 : decode cL_law 1712 = .ok (.iconst 1, 1) := by decide +kernel
theorem dL_law_1713 : decode cL_law 1713 = .ok (.iadd, 1) := by decide +kernel
theorem dL_law_1714 : decode cL_law 1714 = .ok (.iaload, 1) := by decide +kernel
theorem dL_law_1715 : decode cL_law 1715 = .ok (.aload_n 0, 1) := by decide +kernel
theorem dL_law_1716 : decode cL_law 1716 = .ok (.iload_n 3, 1) := by decide +kernel
theorem dL_law_1717 : decode cL_law 1717 = .ok (.iconst 2, 1) := by decide +kernel
theorem dL_law_1718 : decode cL_law 1718 = .ok (.iadd, 1) := by decide +kernel
theorem dL_law_1719 : decode cL_law 1719 = .ok (.iaload, 1) := by decide +kernel
theorem dL_law_1720 : decode cL_law 1720 = .ok (.aload_n 0, 1) := by decide +kernel
theorem dL_law_1721 : decode cL_law 1721 = .ok (.iload_n 3, 1) := by decide +kernel
theorem dL_law_1722 : decode cL_law 1722 = .ok (.iconst 3, 1) := by decide +kernel
theorem dL_law_1723 : decode cL_law 1723 = .ok (.iadd, 1) := by decide +kernel
theorem dL_law_1724 : decode cL_law 1724 = .ok (.iaload, 1) := by decide +kernel
theorem dL_law_1725 : decode cL_law 1725 = .ok (.invokevirtual 213, 3) := by decide +kernel
theorem dL_law_1728 : decode cL_law 1728 = .ok (.if_icmp .eq 484, 3) := by decide +kernel
theorem dL_law_1733 : decode cL_law 1733 = .ok (.aload_n 1, 1) := by decide +kernel
theorem dL_law_1734 : decode cL_law 1734 = .ok (.aload_n 0, 1) := by decide +kernel
theorem dL_law_1735 : decode cL_law 1735 = .ok (.iload_n 3, 1) := by decide +kernel
theorem dL_law_1736 : decode cL_law 1736 = .ok (.iconst 1, 1) := by decide +kernel
theorem dL_law_1737 : decode cL_law 1737 = .ok (.iadd, 1) := by decide +kernel
theorem dL_law_1738 : decode cL_law 1738 = .ok (.iaload, 1) := by decide +kernel
theorem dL_law_1739 : decode cL_law 1739 = .ok (.invokevirtual 214, 3) := by decide +kernel
theorem dL_law_1742 : decode cL_law 1742 = .ok (.aload_n 2, 1) := by decide +kernel
theorem dL_law_1743 : decode cL_law 1743 = .ok (.aload_n 0, 1) := by decide +kernel
theorem dL_law_1744 : decode cL_law 1744 = .ok (.iload_n 3, 1) := by decide +kernel
theorem dL_law_1745 : decode cL_law 1745 = .ok (.iconst 1, 1) := by decide +kernel
theorem dL_law_1746 : decode cL_law 1746 = .ok (.iadd, 1) := by decide +kernel
theorem dL_law_1747 : decode cL_law 1747 = .ok (.iaload, 1) := by decide +kernel
theorem dL_law_1748 : decode cL_law 1748 = .ok (.invokevirtual 217, 3) := by decide +kernel
theorem dL_law_1751 : decode cL_law 1751 = .ok (.if_icmp .eq 461, 3) := by decide +kernel
theorem dL_law_1756 : decode cL_law 1756 = .ok (.aload_n 1, 1) := by decide +kernel
theorem dL_law_1757 : decode cL_law 1757 = .ok (.invokevirtual 218, 3) := by decide +kernel
theorem dL_law_1760 : decode cL_law 1760 = .ok (.aload_n 2, 1) := by decide +kernel
theorem dL_law_1761 : decode cL_law 1761 = .ok (.invokevirtual 221, 3) := by decide +kernel
theorem dL_law_1764 : decode cL_law 1764 = .ok (.if_icmp .eq 448, 3) := by decide +kernel
theorem dL_law_1769 : decode cL_law 1769 = .ok (.aload_n 1, 1) := by decide +kernel
theorem dL_law_1770 : decode cL_law 1770 = .ok (.invokevirtual 222, 3) := by decide +kernel
theorem dL_law_1773 : decode cL_law 1773 = .ok (.aload_n 2, 1) := by decide +kernel
theorem dL_law_1774 : decode cL_law 1774 = .ok (.invokevirtual 225, 3) := by decide +kernel
theorem dL_law_1777 : decode cL_law 1777 = .ok (.if_icmp .eq 435, 3) := by decide +kernel
theorem dL_law_1782 : decode cL_law 1782 = .ok (.aload_n 1, 1) := by decide +kernel
theorem dL_law_1783 : decode cL_law 1783 = .ok (.aload_n 0, 1) := by decide +kernel
theorem dL_law_1784 : decode cL_law 1784 = .ok (.iload_n 3, 1) := by decide +kernel
theorem dL_law_1785 : decode cL_law 1785 = .ok (.iconst 1, 1) := by decide +kernel
theorem dL_law_1786 : decode cL_law 1786 = .ok (.iadd, 1) := by decide +kernel
theorem dL_law_1787 : decode cL_law 1787 = .ok (.iaload, 1) := by decide +kernel
theorem dL_law_1788 : decode cL_law 1788 = .ok (.aload_n 0, 1) := by decide +kernel
theorem dL_law_1789 : decode cL_law 1789 = .ok (.iload_n 3, 1) := by decide +kernel
theorem dL_law_1790 : decode cL_law 1790 = .ok (.iconst 2, 1) := by decide +kernel
theorem dL_law_1791 : decode cL_law 1791 = .ok (.iadd, 1) := by decide +kernel
theorem dL_law_1792 : decode cL_law 1792 = .ok (.iaload, 1) := by decide +kernel
theorem dL_law_1793 : decode cL_law 1793 = .ok (.aload_n 0, 1) := by decide +kernel
theorem dL_law_1794 : decode cL_law 1794 = .ok (.iload_n 3, 1) := by decide +kernel
theorem dL_law_1795 : decode cL_law 1795 = .ok (.iconst 3, 1) := by decide +kernel
theorem dL_law_1796 : decode cL_law 1796 = .ok (.iadd, 1) := by decide +kernel
theorem dL_law_1797 : decode cL_law 1797 = .ok (.iaload, 1) := by decide +kernel
theorem dL_law_1798 : decode cL_law 1798 = .ok (.aload_n 0, 1) := by decide +kernel
theorem dL_law_1799 : decode cL_law 1799 = .ok (.iload_n 3, 1) := by decide +kernel
theorem dL_law_1800 : decode cL_law 1800 = .ok (.iconst 4, 1) := by decide +kernel
theorem dL_law_1801 : decode cL_law 1801 = .ok (.iadd, 1) := by decide +kernel
theorem dL_law_1802 : decode cL_law 1802 = .ok (.iaload, 1) := by decide +kernel
theorem dL_law_1803 : decode cL_law 1803 = .ok (.invokevirtual 226, 3) := by decide +kernel
theorem dL_law_1806 : decode cL_law 1806 = .ok (.aload_n 2, 1) := by decide +kernel
theorem dL_law_1807 : decode cL_law 1807 = .ok (.aload_n 0, 1) := by decide +kernel
theorem dL_law_1808 : decode cL_law 1808 = .ok (.iload_n 3, 1) := by decide +kernel
theorem dL_law_1809 : decode cL_law 1809 = .ok (.iconst 1, 1) := by decide +kernel
theorem dL_law_1810 : decode cL_law 1810 = .ok (.iadd, 1) := by decide +kernel
theorem dL_law_1811 : decode cL_law 1811 = .ok (.iaload, 1) := by decide +kernel
theorem dL_law_1812 : decode cL_law 1812 = .ok (.aload_n 0, 1) := by decide +kernel
theorem dL_law_1813 : decode cL_law 1813 = .ok (.iload_n 3, 1) := by decide +kernel
theorem dL_law_1814 : decode cL_law 1814 = .ok (.iconst 2, 1) := by decide +kernel
theorem dL_law_1815 : decode cL_law 1815 = .ok (.iadd, 1) := by decide +kernel
theorem dL_law_1816 : decode cL_law 1816 = .ok (.iaload, 1) := by decide +kernel
theorem dL_law_1817 : decode cL_law 1817 = .ok (.aload_n 0, 1) := by decide +kernel
theorem dL_law_1818 : decode cL_law 1818 = .ok (.iload_n 3, 1) := by decide +kernel
theorem dL_law_1819 : decode cL_law 1819 = .ok (.iconst 3, 1) := by decide +kernel
theorem dL_law_1820 : decode cL_law 1820 = .ok (.iadd, 1) := by decide +kernel
theorem dL_law_1821 : decode cL_law 1821 = .ok (.iaload, 1) := by decide +kernel
theorem dL_law_1822 : decode cL_law 1822 = .ok (.aload_n 0, 1) := by decide +kernel
theorem dL_law_1823 : decode cL_law 1823 = .ok (.iload_n 3, 1) := by decide +kernel
theorem dL_law_1824 : decode cL_law 1824 = .ok (.iconst 4, 1) := by decide +kernel
theorem dL_law_1825 : decode cL_law 1825 = .ok (.iadd, 1) := by decide +kernel
theorem dL_law_1826 : decode cL_law 1826 = .ok (.iaload, 1) := by decide +kernel
theorem dL_law_1827 : decode cL_law 1827 = .ok (.invokevirtual 230, 3) := by decide +kernel
theorem dL_law_1830 : decode cL_law 1830 = .ok (.if_icmp .eq 382, 3) := by decide +kernel
theorem dL_law_1835 : decode cL_law 1835 = .ok (.aload_n 1, 1) := by decide +kernel
theorem dL_law_1836 : decode cL_law 1836 = .ok (.aload_n 0, 1) := by decide +kernel
theorem dL_law_1837 : decode cL_law 1837 = .ok (.iload_n 3, 1) := by decide +kernel
theorem dL_law_1838 : decode cL_law 1838 = .ok (.iconst 1, 1) := by decide +kernel
theorem dL_law_1839 : decode cL_law 1839 = .ok (.iadd, 1) := by decide +kernel
theorem dL_law_1840 : decode cL_law 1840 = .ok (.iaload, 1) := by decide +kernel
theorem dL_law_1841 : decode cL_law 1841 = .ok (.aload_n 0, 1) := by decide +kernel
theorem dL_law_1842 : decode cL_law 1842 = .ok (.iload_n 3, 1) := by decide +kernel
theorem dL_law_1843 : decode cL_law 1843 = .ok (.iconst 2, 1) := by decide +kernel
theorem dL_law_1844 : decode cL_law 1844 = .ok (.iadd, 1) := by decide +kernel
theorem dL_law_1845 : decode cL_law 1845 = .ok (.iaload, 1) := by decide +kernel
theorem dL_law_1846 : decode cL_law 1846 = .ok (.aload_n 0, 1) := by decide +kernel
theorem dL_law_1847 : decode cL_law 1847 = .ok (.iload_n 3, 1) := by decide +kernel
theorem dL_law_1848 : decode cL_law 1848 = .ok (.iconst 3, 1) := by decide +kernel
theorem dL_law_1849 : decode cL_law 1849 = .ok (.iadd, 1) := by decide +kernel
theorem dL_law_1850 : decode cL_law 1850 = .ok (.iaload, 1) := by decide +kernel
theorem dL_law_1851 : decode cL_law 1851 = .ok (.aload_n 0, 1) := by decide +kernel
theorem dL_law_1852 : decode cL_law 1852 = .ok (.iload_n 3, 1) := by decide +kernel
theorem dL_law_1853 : decode cL_law 1853 = .ok (.iconst 4, 1) := by decide +kernel
theorem dL_law_1854 : decode cL_law 1854 = .ok (.iadd, 1) := by decide +kernel
theorem dL_law_1855 : decode cL_law 1855 = .ok (.iaload, 1) := by decide +kernel
theorem dL_law_1856 : decode cL_law 1856 = .ok (.aload_n 0, 1) := by decide +kernel
theorem dL_law_1857 : decode cL_law 1857 = .ok (.iload_n 3, 1) := by decide +kernel
theorem dL_law_1858 : decode cL_law 1858 = .ok (.iconst 5, 1) := by decide +kernel
theorem dL_law_1859 : decode cL_law 1859 = .ok (.iadd, 1) := by decide +kernel
theorem dL_law_1860 : decode cL_law 1860 = .ok (.iaload, 1) := by decide +kernel
theorem dL_law_1861 : decode cL_law 1861 = .ok (.invokevirtual 231, 3) := by decide +kernel
theorem dL_law_1864 : decode cL_law 1864 = .ok (.aload_n 2, 1) := by decide +kernel
theorem dL_law_1865 : decode cL_law 1865 = .ok (.aload_n 0, 1) := by decide +kernel
theorem dL_law_1866 : decode cL_law 1866 = .ok (.iload_n 3, 1) := by decide +kernel
theorem dL_law_1867 : decode cL_law 1867 = .ok (.iconst 1, 1) := by decide +kernel
theorem dL_law_1868 : decode cL_law 1868 = .ok (.iadd, 1) := by decide +kernel
theorem dL_law_1869 : decode cL_law 1869 = .ok (.iaload, 1) := by decide +kernel
theorem dL_law_1870 : decode cL_law 1870 = .ok (.aload_n 0, 1) := by decide +kernel
theorem dL_law_1871 : decode cL_law 1871 = .ok (.iload_n 3, 1) := by decide +kernel
theorem dL_law_1872 : decode cL_law 1872 = .ok (.iconst 2, 1) := by decide +kernel
theorem dL_law_1873 : decode cL_law 1873 = .ok (.iadd, 1) := by decide +kernel
theorem dL_law_1874 : decode cL_law 1874 = .ok (.iaload, 1) := by decide +kernel
theorem dL_law_1875 : decode cL_law 1875 = .ok (.aload_n 0, 1) := by decide +kernel
theorem dL_law_1876 : decode cL_law 1876 = .ok (.iload_n 3, 1) := by decide +kernel
theorem dL_law_1877 : decode cL_law 1877 = .ok (.iconst 3, 1) := by decide +kernel
theorem dL_law_1878 : decode cL_law 1878 = .ok (.iadd, 1) := by decide +kernel
theorem dL_law_1879 : decode cL_law 1879 = .ok (.iaload, 1) := by decide +kernel
theorem dL_law_1880 : decode cL_law 1880 = .ok (.aload_n 0, 1) := by decide +kernel
theorem dL_law_1881 : decode cL_law 1881 = .ok (.iload_n 3, 1) := by decide +kernel
theorem dL_law_1882 : decode cL_law 1882 = .ok (.iconst 4, 1) := by decide +kernel
theorem dL_law_1883 : decode cL_law 1883 = .ok (.iadd, 1) := by decide +kernel
theorem dL_law_1884 : decode cL_law 1884 = .ok (.iaload, 1) := by decide +kernel
theorem dL_law_1885 : decode cL_law 1885 = .ok (.aload_n 0, 1) := by decide +kernel
theorem dL_law_1886 : decode cL_law 1886 = .ok (.iload_n 3, 1) := by decide +kernel
theorem dL_law_1887 : decode cL_law 1887 = .ok (.iconst 5, 1) := by decide +kernel
theorem dL_law_1888 : decode cL_law 1888 = .ok (.iadd, 1) := by decide +kernel
theorem dL_law_1889 : decode cL_law 1889 = .ok (.iaload, 1) := by decide +kernel
theorem dL_law_1890 : decode cL_law 1890 = .ok (.invokevirtual 234, 3) := by decide +kernel
theorem dL_law_1893 : decode cL_law 1893 = .ok (.if_icmp .eq 319, 3) := by decide +kernel
theorem dL_law_1898 : decode cL_law 1898 = .ok (.aload_n 1, 1) := by decide +kernel
theorem dL_law_1899 : decode cL_law 1899 = .ok (.aload_n 0, 1) := by decide +kernel
theorem dL_law_1900 : decode cL_law 1900 = .ok (.iload_n 3, 1) := by decide +kernel
theorem dL_law_1901 : decode cL_law 1901 = .ok (.iconst 1, 1) := by decide +kernel
theorem dL_law_1902 : decode cL_law 1902 = .ok (.iadd, 1) := by decide +kernel
theorem dL_law_1903 : decode cL_law 1903 = .ok (.iaload, 1) := by decide +kernel
theorem dL_law_1904 : decode cL_law 1904 = .ok (.aload_n 0, 1) := by decide +kernel
theorem dL_law_1905 : decode cL_law 1905 = .ok (.iload_n 3, 1) := by decide +kernel
theorem dL_law_1906 : decode cL_law 1906 = .ok (.iconst 2, 1) := by decide +kernel
theorem dL_law_1907 : decode cL_law 1907 = .ok (.iadd, 1) := by decide +kernel
theorem dL_law_1908 : decode cL_law 1908 = .ok (.iaload, 1) := by decide +kernel
theorem dL_law_1909 : decode cL_law 1909 = .ok (.aload_n 0, 1) := by decide +kernel
theorem dL_law_1910 : decode cL_law 1910 = .ok (.iload_n 3, 1) := by decide +kernel
theorem dL_law_1911 : decode cL_law 1911 = .ok (.iconst 3, 1) := by decide +kernel
theorem dL_law_1912 : decode cL_law 1912 = .ok (.iadd, 1) := by decide +kernel
theorem dL_law_1913 : decode cL_law 1913 = .ok (.iaload, 1) := by decide +kernel
theorem dL_law_1914 : decode cL_law 1914 = .ok (.invokevirtual 235, 3) := by decide +kernel
theorem dL_law_1917 : decode cL_law 1917 = .ok (.aload_n 2, 1) := by decide +kernel
theorem dL_law_1918 : decode cL_law 1918 = .ok (.aload_n 0, 1) := by decide +kernel
theorem dL_law_1919 : decode cL_law 1919 = .ok (.iload_n 3, 1) := by decide +kernel
theorem dL_law_1920 : decode cL_law 1920 = .ok (.iconst 1, 1) := by decide +kernel
theorem dL_law_1921 : decode cL_law 1921 = .ok (.iadd, 1) := by decide +kernel
theorem dL_law_1922 : decode cL_law 1922 = .ok (.iaload, 1) := by decide +kernel
theorem dL_law_1923 : decode cL_law 1923 = .ok (.aload_n 0, 1) := by decide +kernel
theorem dL_law_1924 : decode cL_law 1924 = .ok (.iload_n 3, 1) := by decide +kernel
theorem dL_law_1925 : decode cL_law 1925 = .ok (.iconst 2, 1) := by decide +kernel
theorem dL_law_1926 : decode cL_law 1926 = .ok (.iadd, 1) := by decide +kernel
theorem dL_law_1927 : decode cL_law 1927 = .ok (.iaload, 1) := by decide +kernel
theorem dL_law_1928 : decode cL_law 1928 = .ok (.aload_n 0, 1) := by decide +kernel
theorem dL_law_1929 : decode cL_law 1929 = .ok (.iload_n 3, 1) := by decide +kernel
theorem dL_law_1930 : decode cL_law 1930 = .ok (.iconst 3, 1) := by decide +kernel
theorem dL_law_1931 : decode cL_law 1931 = .ok (.iadd, 1) := by decide +kernel
theorem dL_law_1932 : decode cL_law 1932 = .ok (.iaload, 1) := by decide +kernel
theorem dL_law_1933 : decode cL_law 1933 = .ok (.invokevirtual 238, 3) := by decide +kernel
theorem dL_law_1936 : decode cL_law 1936 = .ok (.if_icmp .eq 276, 3) := by decide +kernel
theorem dL_law_1941 : decode cL_law 1941 = .ok (.aload_n 1, 1) := by decide +kernel
theorem dL_law_1942 : decode cL_law 1942 = .ok (.aload_n 0, 1) := by decide +kernel
theorem dL_law_1943 : decode cL_law 1943 = .ok (.iload_n 3, 1) := by decide +kernel
theorem dL_law_1944 : decode cL_law 1944 = .ok (.iconst 1, 1) := by decide +kernel
theorem dL_law_1945 : decode cL_law 1945 = .ok (.iadd, 1) := by decide +kernel
theorem dL_law_1946 : decode cL_law 1946 = .ok (.iaload, 1) := by decide +kernel
theorem dL_law_1947 : decode cL_law 1947 = .ok (.invokevirtual 239, 3) := by decide +kernel
theorem dL_law_1950 : decode cL_law 1950 = .ok (.aload_n 2, 1) := by decide +kernel
theorem dL_law_1951 : decode cL_law 1951 = .ok (.aload_n 0, 1) := by decide +kernel
theorem dL_law_1952 : decode cL_law 1952 = .ok (.iload_n 3, 1) := by decide +kernel
theorem dL_law_1953 : decode cL_law 1953 = .ok (.iconst 1, 1) := by decide +kernel
theorem dL_law_1954 : decode cL_law 1954 = .ok (.iadd, 1) := by decide +kernel
theorem dL_law_1955 : decode cL_law 1955 = .ok (.iaload, 1) := by decide +kernel
theorem dL_law_1956 : decode cL_law 1956 = .ok (.invokevirtual 242, 3) := by decide +kernel
theorem dL_law_1959 : decode cL_law 1959 = .ok (.if_icmp .eq 253, 3) := by decide +kernel
theorem dL_law_1964 : decode cL_law 1964 = .ok (.aload_n 1, 1) := by decide +kernel
theorem dL_law_1965 : decode cL_law 1965 = .ok (.aload_n 0, 1) := by decide +kernel
theorem dL_law_1966 : decode cL_law 1966 = .ok (.iload_n 3, 1) := by decide +kernel
theorem dL_law_1967 : decode cL_law 1967 = .ok (.iconst 1, 1) := by decide +kernel
theorem dL_law_1968 : decode cL_law 1968 = .ok (.iadd, 1) := by decide +kernel
theorem dL_law_1969 : decode cL_law 1969 = .ok (.iaload, 1) := by decide +kernel
theorem dL_law_1970 : decode cL_law 1970 = .ok (.invokevirtual 243, 3) := by decide +kernel
theorem dL_law_1973 : decode cL_law 1973 = .ok (.aload_n 2, 1) := by decide +kernel
theorem dL_law_1974 : decode cL_law 1974 = .ok (.aload_n 0, 1) := by decide +kernel
theorem dL_law_1975 : decode cL_law 1975 = .ok (.iload_n 3, 1) := by decide +kernel
theorem dL_law_1976 : decode cL_law 1976 = .ok (.iconst 1, 1) := by decide +kernel
theorem dL_law_1977 : decode cL_law 1977 = .ok (.iadd, 1) := by decide +kernel
theorem dL_law_1978 : decode cL_law 1978 = .ok (.iaload, 1) := by decide +kernel
theorem dL_law_1979 : decode cL_law 1979 = .ok (.invokevirtual 246, 3) := by decide +kernel
theorem dL_law_1982 : decode cL_law 1982 = .ok (.if_icmp .eq 230, 3) := by decide +kernel
theorem dL_law_2010 : decode cL_law 2010 = .ok (.aload_n 1, 1) := by decide +kernel
theorem dL_law_2011 : decode cL_law 2011 = .ok (.aload_n 0, 1) := by decide +kernel
theorem dL_law_2012 : decode cL_law 2012 = .ok (.iload_n 3, 1) := by decide +kernel
theorem dL_law_2013 : decode cL_law 2013 = .ok (.iconst 1, 1) := by decide +kernel
theorem dL_law_2014 : decode cL_law 2014 = .ok (.iadd, 1) := by decide +kernel
theorem dL_law_2015 : decode cL_law 2015 = .ok (.iaload, 1) := by decide +kernel
theorem dL_law_2016 : decode cL_law 2016 = .ok (.invokevirtual 251, 3) := by decide +kernel
theorem dL_law_2019 : decode cL_law 2019 = .ok (.aload_n 2, 1) := by decide +kernel
theorem dL_law_2020 : decode cL_law 2020 = .ok (.aload_n 0, 1) := by decide +kernel
theorem dL_law_2021 : decode cL_law 2021 = .ok (.iload_n 3, 1) := by decide +kernel
theorem dL_law_2022 : decode cL_law 2022 = .ok (.iconst 1, 1) := by decide +kernel
theorem dL_law_2023 : decode cL_law 2023 = .ok (.iadd, 1) := by decide +kernel
theorem dL_law_2024 : decode cL_law 2024 = .ok (.iaload, 1) := by decide +kernel
theorem dL_law_2025 : decode cL_law 2025 = .ok (.invokevirtual 254, 3) := by decide +kernel
theorem dL_law_2028 : decode cL_law 2028 = .ok (.if_icmp .eq 184, 3) := by decide +kernel
theorem dL_law_2076 : decode cL_law 2076 = .ok (.aload_n 1, 1) := by decide +kernel
theorem dL_law_2077 : decode cL_law 2077 = .ok (.aload_n 0, 1) := by decide +kernel
theorem dL_law_2078 : decode cL_law 2078 = .ok (.iload_n 3, 1) := by decide +kernel
theorem dL_law_2079 : decode cL_law 2079 = .ok (.iconst 1, 1) := by decide +kernel
theorem dL_law_2080 : decode cL_law 2080 = .ok (.iadd, 1) := by decide +kernel
theorem dL_law_2081 : decode cL_law 2081 = .ok (.iaload, 1) := by decide +kernel
theorem dL_law_2082 : decode cL_law 2082 = .ok (.aload_n 0, 1) := by decide +kernel
theorem dL_law_2083 : decode cL_law 2083 = .ok (.iload_n 3, 1) := by decide +kernel
theorem dL_law_2084 : decode cL_law 2084 = .ok (.iconst 2, 1) := by decide +kernel
theorem dL_law_2085 : decode cL_law 2085 = .ok (.iadd, 1) := by decide +kernel
theorem dL_law_2086 : decode cL_law 2086 = .ok (.iaload, 1) := by decide +kernel
theorem dL_law_2087 : decode cL_law 2087 = .ok (.aload_n 0, 1) := by decide +kernel
theorem dL_law_2088 : decode cL_law 2088 = .ok (.iload_n 3, 1) := by decide +kernel
theorem dL_law_2089 : decode cL_law 2089 = .ok (.iconst 3, 1) := by decide +kernel
theorem dL_law_2090 : decode cL_law 2090 = .ok (.iadd, 1) := by decide +kernel
theorem dL_law_2091 : decode cL_law 2091 = .ok (.iaload, 1) := by decide +kernel
theorem dL_law_2092 : decode cL_law 2092 = .ok (.i2l, 1) := by decide +kernel
theorem dL_law_2093 : decode cL_law 2093 = .ok (.bipush 32, 2) := by decide +kernel
theorem dL_law_2095 : decode cL_law 2095 = .ok (.lshl, 1) := by decide +kernel
theorem dL_law_2096 : decode cL_law 2096 = .ok (.aload_n 0, 1) := by decide +kernel
theorem dL_law_2097 : decode cL_law 2097 = .ok (.iload_n 3, 1) := by decide +kernel
theorem dL_law_2098 : decode cL_law 2098 = .ok (.iconst 4, 1) := by decide +kernel
theorem dL_law_2099 : decode cL_law 2099 = .ok (.iadd, 1) := by decide +kernel
theorem dL_law_2100 : decode cL_law 2100 = .ok (.iaload, 1) := by decide +kernel
theorem dL_law_2101 : decode cL_law 2101 = .ok (.i2l, 1) := by decide +kernel
theorem dL_law_2102 : decode cL_law 2102 = .ok (.ldc2_w 259, 3) := by decide +kernel
theorem dL_law_2105 : decode cL_law 2105 = .ok (.land, 1) := by decide +kernel
theorem dL_law_2106 : decode cL_law 2106 = .ok (.lor, 1) := by decide +kernel
theorem dL_law_2107 : decode cL_law 2107 = .ok (.invokevirtual 261, 3) := by decide +kernel
theorem dL_law_2110 : decode cL_law 2110 = .ok (.aload_n 2, 1) := by decide +kernel
theorem dL_law_2111 : decode cL_law 2111 = .ok (.aload_n 0, 1) := by decide +kernel
theorem dL_law_2112 : decode cL_law 2112 = .ok (.iload_n 3, 1) := by decide +kernel
theorem dL_law_2113 : decode cL_law 2113 = .ok (.iconst 1, 1) := by decide +kernel
theorem dL_law_2114 : decode cL_law 2114 = .ok (.iadd, 1) := by decide +kernel
theorem dL_law_2115 : decode cL_law 2115 = .ok (.iaload, 1) := by decide +kernel
theorem dL_law_2116 : decode cL_law 2116 = .ok (.aload_n 0, 1) := by decide +kernel
theorem dL_law_2117 : decode cL_law 2117 = .ok (.iload_n 3, 1) := by decide +kernel
theorem dL_law_2118 : decode cL_law 2118 = .ok (.iconst 2, 1) := by decide +kernel
theorem dL_law_2119 : decode cL_law 2119 = .ok (.iadd, 1) := by decide +kernel
theorem dL_law_2120 : decode cL_law 2120 = .ok (.iaload, 1) := by decide +kernel
theorem dL_law_2121 : decode cL_law 2121 = .ok (.aload_n 0, 1) := by decide +kernel
theorem dL_law_2122 : decode cL_law 2122 = .ok (.iload_n 3, 1) := by decide +kernel
theorem dL_law_2123 : decode cL_law 2123 = .ok (.iconst 3, 1) := by decide +kernel
theorem dL_law_2124 : decode cL_law 2124 = .ok (.iadd, 1) := by decide +kernel
theorem dL_law_2125 : decode cL_law 2125 = .ok (.iaload, 1) := by decide +kernel
theorem dL_law_2126 : decode cL_law 2126 = .ok (.i2l, 1) := by decide +kernel
theorem dL_law_2127 : decode cL_law 2127 = .ok (.bipush 32, 2) := by decide +kernel
theorem dL_law_2129 : decode cL_law 2129 = .ok (.lshl, 1) := by decide +kernel
theorem dL_law_2130 : decode cL_law 2130 = .ok (.aload_n 0, 1) := by decide +kernel
theorem dL_law_2131 : decode cL_law 2131 = .ok (.iload_n 3, 1) := by decide +kernel
theorem dL_law_2132 : decode cL_law 2132 = .ok (.iconst 4, 1) := by decide +kernel
theorem dL_law_2133 : decode cL_law 2133 = .ok (.iadd, 1) := by decide +kernel
theorem dL_law_2134 : decode cL_law 2134 = .ok (.iaload, 1) := by decide +kernel
theorem dL_law_2135 : decode cL_law 2135 = .ok (.i2l, 1) := by decide +kernel
theorem dL_law_2136 : decode cL_law 2136 = .ok (.ldc2_w 259, 3) := by decide +kernel
theorem dL_law_2139 : decode cL_law 2139 = .ok (.land, 1) := by decide +kernel
theorem dL_law_2140 : decode cL_law 2140 = .ok (.lor, 1) := by decide +kernel
theorem dL_law_2141 : decode cL_law 2141 = .ok (.invokevirtual 265, 3) := by decide +kernel
theorem dL_law_2144 : decode cL_law 2144 = .ok (.if_icmp .eq 68, 3) := by decide +kernel
theorem dL_law_2149 : decode cL_law 2149 = .ok (.aload_n 1, 1) := by decide +kernel
theorem dL_law_2150 : decode cL_law 2150 = .ok (.aload_n 0, 1) := by decide +kernel
theorem dL_law_2151 : decode cL_law 2151 = .ok (.iload_n 3, 1) := by decide +kernel
theorem dL_law_2152 : decode cL_law 2152 = .ok (.iconst 1, 1) := by decide +kernel
theorem dL_law_2153 : decode cL_law 2153 = .ok (.iadd, 1) := by decide +kernel
theorem dL_law_2154 : decode cL_law 2154 = .ok (.iaload, 1) := by decide +kernel
theorem dL_law_2155 : decode cL_law 2155 = .ok (.aload_n 0, 1) := by decide +kernel
theorem dL_law_2156 : decode cL_law 2156 = .ok (.iload_n 3, 1) := by decide +kernel
theorem dL_law_2157 : decode cL_law 2157 = .ok (.iconst 2, 1) := by decide +kernel
theorem dL_law_2158 : decode cL_law 2158 = .ok (.iadd, 1) := by decide +kernel
theorem dL_law_2159 : decode cL_law 2159 = .ok (.iaload, 1) := by decide +kernel
theorem dL_law_2160 : decode cL_law 2160 = .ok (.aload_n 0, 1) := by decide +kernel
theorem dL_law_2161 : decode cL_law 2161 = .ok (.iload_n 3, 1) := by decide +kernel
theorem dL_law_2162 : decode cL_law 2162 = .ok (.iconst 3, 1) := by decide +kernel
theorem dL_law_2163 : decode cL_law 2163 = .ok (.iadd, 1) := by decide +kernel
theorem dL_law_2164 : decode cL_law 2164 = .ok (.iaload, 1) := by decide +kernel
theorem dL_law_2165 : decode cL_law 2165 = .ok (.aload_n 0, 1) := by decide +kernel
theorem dL_law_2166 : decode cL_law 2166 = .ok (.iload_n 3, 1) := by decide +kernel
theorem dL_law_2167 : decode cL_law 2167 = .ok (.iconst 4, 1) := by decide +kernel
theorem dL_law_2168 : decode cL_law 2168 = .ok (.iadd, 1) := by decide +kernel
theorem dL_law_2169 : decode cL_law 2169 = .ok (.iaload, 1) := by decide +kernel
theorem dL_law_2170 : decode cL_law 2170 = .ok (.aload_n 0, 1) := by decide +kernel
theorem dL_law_2171 : decode cL_law 2171 = .ok (.iload_n 3, 1) := by decide +kernel
theorem dL_law_2172 : decode cL_law 2172 = .ok (.iconst 5, 1) := by decide +kernel
theorem dL_law_2173 : decode cL_law 2173 = .ok (.iadd, 1) := by decide +kernel
theorem dL_law_2174 : decode cL_law 2174 = .ok (.iaload, 1) := by decide +kernel
theorem dL_law_2175 : decode cL_law 2175 = .ok (.invokevirtual 266, 3) := by decide +kernel
theorem dL_law_2178 : decode cL_law 2178 = .ok (.aload_n 2, 1) := by decide +kernel
theorem dL_law_2179 : decode cL_law 2179 = .ok (.aload_n 0, 1) := by decide +kernel
theorem dL_law_2180 : decode cL_law 2180 = .ok (.iload_n 3, 1) := by decide +kernel
theorem dL_law_2181 : decode cL_law 2181 = .ok (.iconst 1, 1) := by decide +kernel
theorem dL_law_2182 : decode cL_law 2182 = .ok (.iadd, 1) := by decide +kernel
theorem dL_law_2183 : decode cL_law 2183 = .ok (.iaload, 1) := by decide +kernel
theorem dL_law_2184 : decode cL_law 2184 = .ok (.aload_n 0, 1) := by decide +kernel
theorem dL_law_2185 : decode cL_law 2185 = .ok (.iload_n 3, 1) := by decide +kernel
theorem dL_law_2186 : decode cL_law 2186 = .ok (.iconst 2, 1) := by decide +kernel
theorem dL_law_2187 : decode cL_law 2187 = .ok (.iadd, 1) := by decide +kernel
theorem dL_law_2188 : decode cL_law 2188 = .ok (.iaload, 1) := by decide +kernel
theorem dL_law_2189 : decode cL_law 2189 = .ok (.aload_n 0, 1) := by decide +kernel
theorem dL_law_2190 : decode cL_law 2190 = .ok (.iload_n 3, 1) := by decide +kernel
theorem dL_law_2191 : decode cL_law 2191 = .ok (.iconst 3, 1) := by decide +kernel
theorem dL_law_2192 : decode cL_law 2192 = .ok (.iadd, 1) := by decide +kernel
theorem dL_law_2193 : decode cL_law 2193 = .ok (.iaload, 1) := by decide +kernel
theorem dL_law_2194 : decode cL_law 2194 = .ok (.aload_n 0, 1) := by decide +kernel
theorem dL_law_2195 : decode cL_law 2195 = .ok (.iload_n 3, 1) := by decide +kernel
theorem dL_law_2196 : decode cL_law 2196 = .ok (.iconst 4, 1) := by decide +kernel
theorem dL_law_2197 : decode cL_law 2197 = .ok (.iadd, 1) := by decide +kernel
theorem dL_law_2198 : decode cL_law 2198 = .ok (.iaload, 1) := by decide +kernel
theorem dL_law_2199 : decode cL_law 2199 = .ok (.aload_n 0, 1) := by decide +kernel
theorem dL_law_2200 : decode cL_law 2200 = .ok (.iload_n 3, 1) := by decide +kernel
theorem dL_law_2201 : decode cL_law 2201 = .ok (.iconst 5, 1) := by decide +kernel
theorem dL_law_2202 : decode cL_law 2202 = .ok (.iadd, 1) := by decide +kernel
theorem dL_law_2203 : decode cL_law 2203 = .ok (.iaload, 1) := by decide +kernel
theorem dL_law_2204 : decode cL_law 2204 = .ok (.invokevirtual 269, 3) := by decide +kernel
theorem dL_law_2207 : decode cL_law 2207 = .ok (.if_icmp .eq 5, 3) := by decide +kernel
