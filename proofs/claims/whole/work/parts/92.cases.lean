/-! the law's calls, one by one -/
theorem lk_L_13 : LkV RL 13 yX6_feed cX6_feed 2 (some .int) 1 := ⟨ws_in (List.mem_of_getElem? (i := 404) (by decide +kernel)) rfl, ws_in (List.mem_of_getElem? (i := 405) (by decide +kernel)) rfl, ws_in (List.mem_of_getElem? (i := 406) (by decide +kernel)) rfl, ws_in (List.mem_of_getElem? (i := 101) (by decide +kernel)) rfl, ws_in (List.mem_of_getElem? (i := 407) (by decide +kernel)) rfl, ⟨by decide +kernel, by decide +kernel⟩, by decide +kernel, by decide⟩
theorem lk_L_17 : LkV RL 17 yX7_feed cX7_feed 2 (some .int) 1 := ⟨ws_in (List.mem_of_getElem? (i := 919) (by decide +kernel)) rfl, ws_in (List.mem_of_getElem? (i := 920) (by decide +kernel)) rfl, ws_in (List.mem_of_getElem? (i := 921) (by decide +kernel)) rfl, ws_in (List.mem_of_getElem? (i := 110) (by decide +kernel)) rfl, ws_in (List.mem_of_getElem? (i := 922) (by decide +kernel)) rfl, ⟨by decide +kernel, by decide +kernel⟩, by decide +kernel, by decide⟩
theorem lk_L_18 : LkV RL 18 yX6_define cX6_define 3 (some .int) 1 := ⟨ws_in (List.mem_of_getElem? (i := 408) (by decide +kernel)) rfl, ws_in (List.mem_of_getElem? (i := 409) (by decide +kernel)) rfl, ws_in (List.mem_of_getElem? (i := 410) (by decide +kernel)) rfl, ws_in (List.mem_of_getElem? (i := 101) (by decide +kernel)) rfl, ws_in (List.mem_of_getElem? (i := 411) (by decide +kernel)) rfl, ⟨by decide +kernel, by decide +kernel⟩, by decide +kernel, by decide⟩
theorem lk_L_21 : LkV RL 21 yX7_define cX7_define 7 (some .int) 1 := ⟨ws_in (List.mem_of_getElem? (i := 926) (by decide +kernel)) rfl, ws_in (List.mem_of_getElem? (i := 927) (by decide +kernel)) rfl, ws_in (List.mem_of_getElem? (i := 928) (by decide +kernel)) rfl, ws_in (List.mem_of_getElem? (i := 110) (by decide +kernel)) rfl, ws_in (List.mem_of_getElem? (i := 929) (by decide +kernel)) rfl, ⟨by decide +kernel, by decide +kernel⟩, by decide +kernel, by decide⟩
theorem lk_L_22 : LkV RL 22 yX6_wrong cX6_wrong 2 (some .int) 1 := ⟨ws_in (List.mem_of_getElem? (i := 502) (by decide +kernel)) rfl, ws_in (List.mem_of_getElem? (i := 503) (by decide +kernel)) rfl, ws_in (List.mem_of_getElem? (i := 504) (by decide +kernel)) rfl, ws_in (List.mem_of_getElem? (i := 101) (by decide +kernel)) rfl, ws_in (List.mem_of_getElem? (i := 505) (by decide +kernel)) rfl, ⟨by decide +kernel, by decide +kernel⟩, by decide +kernel, by decide⟩
theorem lk_L_25 : LkV RL 25 yX7_wrong cX7_wrong 2 (some .int) 1 := ⟨ws_in (List.mem_of_getElem? (i := 1012) (by decide +kernel)) rfl, ws_in (List.mem_of_getElem? (i := 1013) (by decide +kernel)) rfl, ws_in (List.mem_of_getElem? (i := 1014) (by decide +kernel)) rfl, ws_in (List.mem_of_getElem? (i := 110) (by decide +kernel)) rfl, ws_in (List.mem_of_getElem? (i := 1015) (by decide +kernel)) rfl, ⟨by decide +kernel, by decide +kernel⟩, by decide +kernel, by decide⟩
theorem lk_L_26 : LkV RL 26 yX6_version cX6_version 6 (some .int) 3 := ⟨ws_in (List.mem_of_getElem? (i := 506) (by decide +kernel)) rfl, ws_in (List.mem_of_getElem? (i := 507) (by decide +kernel)) rfl, ws_in (List.mem_of_getElem? (i := 508) (by decide +kernel)) rfl, ws_in (List.mem_of_getElem? (i := 101) (by decide +kernel)) rfl, ws_in (List.mem_of_getElem? (i := 509) (by decide +kernel)) rfl, ⟨by decide +kernel, by decide +kernel⟩, by decide +kernel, by decide⟩
theorem lk_L_30 : LkV RL 30 yX7_version cX7_version 6 (some .int) 3 := ⟨ws_in (List.mem_of_getElem? (i := 1016) (by decide +kernel)) rfl, ws_in (List.mem_of_getElem? (i := 1017) (by decide +kernel)) rfl, ws_in (List.mem_of_getElem? (i := 1018) (by decide +kernel)) rfl, ws_in (List.mem_of_getElem? (i := 110) (by decide +kernel)) rfl, ws_in (List.mem_of_getElem? (i := 1019) (by decide +kernel)) rfl, ⟨by decide +kernel, by decide +kernel⟩, by decide +kernel, by decide⟩
theorem lk_L_31 : LkV RL 31 yX6_duration cX6_duration 3 (some .int) 2 := ⟨ws_in (List.mem_of_getElem? (i := 510) (by decide +kernel)) rfl, ws_in (List.mem_of_getElem? (i := 511) (by decide +kernel)) rfl, ws_in (List.mem_of_getElem? (i := 512) (by decide +kernel)) rfl, ws_in (List.mem_of_getElem? (i := 101) (by decide +kernel)) rfl, ws_in (List.mem_of_getElem? (i := 513) (by decide +kernel)) rfl, ⟨by decide +kernel, by decide +kernel⟩, by decide +kernel, by decide⟩
theorem lk_L_35 : LkV RL 35 yX7_duration cX7_duration 4 (some .int) 2 := ⟨ws_in (List.mem_of_getElem? (i := 1040) (by decide +kernel)) rfl, ws_in (List.mem_of_getElem? (i := 1041) (by decide +kernel)) rfl, ws_in (List.mem_of_getElem? (i := 1042) (by decide +kernel)) rfl, ws_in (List.mem_of_getElem? (i := 110) (by decide +kernel)) rfl, ws_in (List.mem_of_getElem? (i := 1043) (by decide +kernel)) rfl, ⟨by decide +kernel, by decide +kernel⟩, by decide +kernel, by decide⟩
theorem lk_L_36 : LkV RL 36 yX6_failures cX6_failures 3 (some .int) 2 := ⟨ws_in (List.mem_of_getElem? (i := 517) (by decide +kernel)) rfl, ws_in (List.mem_of_getElem? (i := 518) (by decide +kernel)) rfl, ws_in (List.mem_of_getElem? (i := 519) (by decide +kernel)) rfl, ws_in (List.mem_of_getElem? (i := 101) (by decide +kernel)) rfl, ws_in (List.mem_of_getElem? (i := 520) (by decide +kernel)) rfl, ⟨by decide +kernel, by decide +kernel⟩, by decide +kernel, by decide⟩
theorem lk_L_39 : LkV RL 39 yX7_failures cX7_failures 4 (some .int) 2 := ⟨ws_in (List.mem_of_getElem? (i := 1047) (by decide +kernel)) rfl, ws_in (List.mem_of_getElem? (i := 1048) (by decide +kernel)) rfl, ws_in (List.mem_of_getElem? (i := 1049) (by decide +kernel)) rfl, ws_in (List.mem_of_getElem? (i := 110) (by decide +kernel)) rfl, ws_in (List.mem_of_getElem? (i := 1050) (by decide +kernel)) rfl, ⟨by decide +kernel, by decide +kernel⟩, by decide +kernel, by decide⟩
theorem lk_L_40 : LkV RL 40 yX6_start cX6_start 4 (some .int) 1 := ⟨ws_in (List.mem_of_getElem? (i := 521) (by decide +kernel)) rfl, ws_in (List.mem_of_getElem? (i := 522) (by decide +kernel)) rfl, ws_in (List.mem_of_getElem? (i := 523) (by decide +kernel)) rfl, ws_in (List.mem_of_getElem? (i := 101) (by decide +kernel)) rfl, ws_in (List.mem_of_getElem? (i := 524) (by decide +kernel)) rfl, ⟨by decide +kernel, by decide +kernel⟩, by decide +kernel, by decide⟩
theorem lk_L_43 : LkV RL 43 yX7_start cX7_start 4 (some .int) 1 := ⟨ws_in (List.mem_of_getElem? (i := 1051) (by decide +kernel)) rfl, ws_in (List.mem_of_getElem? (i := 1052) (by decide +kernel)) rfl, ws_in (List.mem_of_getElem? (i := 1053) (by decide +kernel)) rfl, ws_in (List.mem_of_getElem? (i := 110) (by decide +kernel)) rfl, ws_in (List.mem_of_getElem? (i := 1054) (by decide +kernel)) rfl, ⟨by decide +kernel, by decide +kernel⟩, by decide +kernel, by decide⟩
theorem lk_L_44 : LkV RL 44 yX6_signal cX6_signal 4 (some .int) 2 := ⟨ws_in (List.mem_of_getElem? (i := 666) (by decide +kernel)) rfl, ws_in (List.mem_of_getElem? (i := 667) (by decide +kernel)) rfl, ws_in (List.mem_of_getElem? (i := 668) (by decide +kernel)) rfl, ws_in (List.mem_of_getElem? (i := 101) (by decide +kernel)) rfl, ws_in (List.mem_of_getElem? (i := 669) (by decide +kernel)) rfl, ⟨by decide +kernel, by decide +kernel⟩, by decide +kernel, by decide⟩
theorem lk_L_47 : LkV RL 47 yX7_signal cX7_signal 3 (some .int) 2 := ⟨ws_in (List.mem_of_getElem? (i := 1157) (by decide +kernel)) rfl, ws_in (List.mem_of_getElem? (i := 1158) (by decide +kernel)) rfl, ws_in (List.mem_of_getElem? (i := 1159) (by decide +kernel)) rfl, ws_in (List.mem_of_getElem? (i := 110) (by decide +kernel)) rfl, ws_in (List.mem_of_getElem? (i := 1160) (by decide +kernel)) rfl, ⟨by decide +kernel, by decide +kernel⟩, by decide +kernel, by decide⟩
theorem lk_L_48 : LkV RL 48 yX6_abort cX6_abort 3 (some .int) 1 := ⟨ws_in (List.mem_of_getElem? (i := 674) (by decide +kernel)) rfl, ws_in (List.mem_of_getElem? (i := 675) (by decide +kernel)) rfl, ws_in (List.mem_of_getElem? (i := 676) (by decide +kernel)) rfl, ws_in (List.mem_of_getElem? (i := 101) (by decide +kernel)) rfl, ws_in (List.mem_of_getElem? (i := 677) (by decide +kernel)) rfl, ⟨by decide +kernel, by decide +kernel⟩, by decide +kernel, by decide⟩
theorem lk_L_51 : LkV RL 51 yX7_abort cX7_abort 2 (some .int) 1 := ⟨ws_in (List.mem_of_getElem? (i := 1165) (by decide +kernel)) rfl, ws_in (List.mem_of_getElem? (i := 1166) (by decide +kernel)) rfl, ws_in (List.mem_of_getElem? (i := 1167) (by decide +kernel)) rfl, ws_in (List.mem_of_getElem? (i := 110) (by decide +kernel)) rfl, ws_in (List.mem_of_getElem? (i := 1168) (by decide +kernel)) rfl, ⟨by decide +kernel, by decide +kernel⟩, by decide +kernel, by decide⟩
theorem lk_L_52 : LkV RL 52 yX6_remove cX6_remove 4 (some .int) 1 := ⟨ws_in (List.mem_of_getElem? (i := 682) (by decide +kernel)) rfl, ws_in (List.mem_of_getElem? (i := 683) (by decide +kernel)) rfl, ws_in (List.mem_of_getElem? (i := 684) (by decide +kernel)) rfl, ws_in (List.mem_of_getElem? (i := 101) (by decide +kernel)) rfl, ws_in (List.mem_of_getElem? (i := 685) (by decide +kernel)) rfl, ⟨by decide +kernel, by decide +kernel⟩, by decide +kernel, by decide⟩
theorem lk_L_55 : LkV RL 55 yX7_remove cX7_remove 3 (some .int) 1 := ⟨ws_in (List.mem_of_getElem? (i := 1169) (by decide +kernel)) rfl, ws_in (List.mem_of_getElem? (i := 1170) (by decide +kernel)) rfl, ws_in (List.mem_of_getElem? (i := 1171) (by decide +kernel)) rfl, ws_in (List.mem_of_getElem? (i := 110) (by decide +kernel)) rfl, ws_in (List.mem_of_getElem? (i := 1172) (by decide +kernel)) rfl, ⟨by decide +kernel, by decide +kernel⟩, by decide +kernel, by decide⟩
theorem lk_L_56 : LkV RL 56 yX6_pass cX6_pass 2 (some .int) 1 := ⟨ws_in (List.mem_of_getElem? (i := 687) (by decide +kernel)) rfl, ws_in (List.mem_of_getElem? (i := 688) (by decide +kernel)) rfl, ws_in (List.mem_of_getElem? (i := 689) (by decide +kernel)) rfl, ws_in (List.mem_of_getElem? (i := 101) (by decide +kernel)) rfl, ws_in (List.mem_of_getElem? (i := 690) (by decide +kernel)) rfl, ⟨by decide +kernel, by decide +kernel⟩, by decide +kernel, by decide⟩
theorem lk_L_59 : LkV RL 59 yX7_pass cX7_pass 3 (some .int) 1 := ⟨ws_in (List.mem_of_getElem? (i := 1173) (by decide +kernel)) rfl, ws_in (List.mem_of_getElem? (i := 1174) (by decide +kernel)) rfl, ws_in (List.mem_of_getElem? (i := 1175) (by decide +kernel)) rfl, ws_in (List.mem_of_getElem? (i := 110) (by decide +kernel)) rfl, ws_in (List.mem_of_getElem? (i := 1176) (by decide +kernel)) rfl, ⟨by decide +kernel, by decide +kernel⟩, by decide +kernel, by decide⟩
theorem lk_L_60 : LkV RL 60 yX6_instance cX6_instance 4 (some .int) 2 := ⟨ws_in (List.mem_of_getElem? (i := 697) (by decide +kernel)) rfl, ws_in (List.mem_of_getElem? (i := 698) (by decide +kernel)) rfl, ws_in (List.mem_of_getElem? (i := 699) (by decide +kernel)) rfl, ws_in (List.mem_of_getElem? (i := 101) (by decide +kernel)) rfl, ws_in (List.mem_of_getElem? (i := 700) (by decide +kernel)) rfl, ⟨by decide +kernel, by decide +kernel⟩, by decide +kernel, by decide⟩
theorem lk_L_63 : LkV RL 63 yX7_instance cX7_instance 3 (some .int) 2 := ⟨ws_in (List.mem_of_getElem? (i := 1182) (by decide +kernel)) rfl, ws_in (List.mem_of_getElem? (i := 1183) (by decide +kernel)) rfl, ws_in (List.mem_of_getElem? (i := 1184) (by decide +kernel)) rfl, ws_in (List.mem_of_getElem? (i := 110) (by decide +kernel)) rfl, ws_in (List.mem_of_getElem? (i := 1185) (by decide +kernel)) rfl, ⟨by decide +kernel, by decide +kernel⟩, by decide +kernel, by decide⟩
theorem lk_L_64 : LkV RL 64 yX6_entry cX6_entry 5 (some .int) 3 := ⟨ws_in (List.mem_of_getElem? (i := 701) (by decide +kernel)) rfl, ws_in (List.mem_of_getElem? (i := 702) (by decide +kernel)) rfl, ws_in (List.mem_of_getElem? (i := 703) (by decide +kernel)) rfl, ws_in (List.mem_of_getElem? (i := 101) (by decide +kernel)) rfl, ws_in (List.mem_of_getElem? (i := 704) (by decide +kernel)) rfl, ⟨by decide +kernel, by decide +kernel⟩, by decide +kernel, by decide⟩
theorem lk_L_67 : LkV RL 67 yX7_entry cX7_entry 4 (some .int) 3 := ⟨ws_in (List.mem_of_getElem? (i := 1186) (by decide +kernel)) rfl, ws_in (List.mem_of_getElem? (i := 1187) (by decide +kernel)) rfl, ws_in (List.mem_of_getElem? (i := 1188) (by decide +kernel)) rfl, ws_in (List.mem_of_getElem? (i := 110) (by decide +kernel)) rfl, ws_in (List.mem_of_getElem? (i := 1189) (by decide +kernel)) rfl, ⟨by decide +kernel, by decide +kernel⟩, by decide +kernel, by decide⟩
theorem lk_L_68 : LkV RL 68 yX6_running cX6_running 4 (some .int) 2 := ⟨ws_in (List.mem_of_getElem? (i := 723) (by decide +kernel)) rfl, ws_in (List.mem_of_getElem? (i := 724) (by decide +kernel)) rfl, ws_in (List.mem_of_getElem? (i := 725) (by decide +kernel)) rfl, ws_in (List.mem_of_getElem? (i := 101) (by decide +kernel)) rfl, ws_in (List.mem_of_getElem? (i := 726) (by decide +kernel)) rfl, ⟨by decide +kernel, by decide +kernel⟩, by decide +kernel, by decide⟩
theorem lk_L_71 : LkV RL 71 yX7_running cX7_running 5 (some .int) 2 := ⟨ws_in (List.mem_of_getElem? (i := 1195) (by decide +kernel)) rfl, ws_in (List.mem_of_getElem? (i := 1196) (by decide +kernel)) rfl, ws_in (List.mem_of_getElem? (i := 1197) (by decide +kernel)) rfl, ws_in (List.mem_of_getElem? (i := 110) (by decide +kernel)) rfl, ws_in (List.mem_of_getElem? (i := 1198) (by decide +kernel)) rfl, ⟨by decide +kernel, by decide +kernel⟩, by decide +kernel, by decide⟩
theorem lk_L_72 : LkV RL 72 yX6_due cX6_due 3 (some .int) 1 := ⟨ws_in (List.mem_of_getElem? (i := 739) (by decide +kernel)) rfl, ws_in (List.mem_of_getElem? (i := 740) (by decide +kernel)) rfl, ws_in (List.mem_of_getElem? (i := 741) (by decide +kernel)) rfl, ws_in (List.mem_of_getElem? (i := 101) (by decide +kernel)) rfl, ws_in (List.mem_of_getElem? (i := 742) (by decide +kernel)) rfl, ⟨by decide +kernel, by decide +kernel⟩, by decide +kernel, by decide⟩
theorem lk_L_75 : LkV RL 75 yX7_due cX7_due 5 (some .int) 1 := ⟨ws_in (List.mem_of_getElem? (i := 1203) (by decide +kernel)) rfl, ws_in (List.mem_of_getElem? (i := 1204) (by decide +kernel)) rfl, ws_in (List.mem_of_getElem? (i := 1205) (by decide +kernel)) rfl, ws_in (List.mem_of_getElem? (i := 110) (by decide +kernel)) rfl, ws_in (List.mem_of_getElem? (i := 1206) (by decide +kernel)) rfl, ⟨by decide +kernel, by decide +kernel⟩, by decide +kernel, by decide⟩
theorem lk_L_76 : LkV RL 76 yX6_ahead cX6_ahead 3 (some .int) 2 := ⟨ws_in (List.mem_of_getElem? (i := 747) (by decide +kernel)) rfl, ws_in (List.mem_of_getElem? (i := 748) (by decide +kernel)) rfl, ws_in (List.mem_of_getElem? (i := 749) (by decide +kernel)) rfl, ws_in (List.mem_of_getElem? (i := 101) (by decide +kernel)) rfl, ws_in (List.mem_of_getElem? (i := 750) (by decide +kernel)) rfl, ⟨by decide +kernel, by decide +kernel⟩, by decide +kernel, by decide⟩
theorem lk_L_79 : LkV RL 79 yX7_ahead cX7_ahead 4 (some .int) 2 := ⟨ws_in (List.mem_of_getElem? (i := 1211) (by decide +kernel)) rfl, ws_in (List.mem_of_getElem? (i := 1212) (by decide +kernel)) rfl, ws_in (List.mem_of_getElem? (i := 1213) (by decide +kernel)) rfl, ws_in (List.mem_of_getElem? (i := 110) (by decide +kernel)) rfl, ws_in (List.mem_of_getElem? (i := 1214) (by decide +kernel)) rfl, ⟨by decide +kernel, by decide +kernel⟩, by decide +kernel, by decide⟩
theorem lk_L_80 : LkV RL 80 yX6_replayed cX6_replayed 4 (some .int) 2 := ⟨ws_in (List.mem_of_getElem? (i := 778) (by decide +kernel)) rfl, ws_in (List.mem_of_getElem? (i := 779) (by decide +kernel)) rfl, ws_in (List.mem_of_getElem? (i := 780) (by decide +kernel)) rfl, ws_in (List.mem_of_getElem? (i := 101) (by decide +kernel)) rfl, ws_in (List.mem_of_getElem? (i := 781) (by decide +kernel)) rfl, ⟨by decide +kernel, by decide +kernel⟩, by decide +kernel, by decide⟩
theorem lk_L_83 : LkV RL 83 yX7_replayed cX7_replayed 5 (some .int) 2 := ⟨ws_in (List.mem_of_getElem? (i := 1218) (by decide +kernel)) rfl, ws_in (List.mem_of_getElem? (i := 1219) (by decide +kernel)) rfl, ws_in (List.mem_of_getElem? (i := 1220) (by decide +kernel)) rfl, ws_in (List.mem_of_getElem? (i := 110) (by decide +kernel)) rfl, ws_in (List.mem_of_getElem? (i := 1221) (by decide +kernel)) rfl, ⟨by decide +kernel, by decide +kernel⟩, by decide +kernel, by decide⟩
theorem lk_L_84 : LkV RL 84 yX6_statistic cX6_statistic 5 (some .int) 2 := ⟨ws_in (List.mem_of_getElem? (i := 797) (by decide +kernel)) rfl, ws_in (List.mem_of_getElem? (i := 798) (by decide +kernel)) rfl, ws_in (List.mem_of_getElem? (i := 799) (by decide +kernel)) rfl, ws_in (List.mem_of_getElem? (i := 101) (by decide +kernel)) rfl, ws_in (List.mem_of_getElem? (i := 800) (by decide +kernel)) rfl, ⟨by decide +kernel, by decide +kernel⟩, by decide +kernel, by decide⟩
theorem lk_L_87 : LkV RL 87 yX7_statistic cX7_statistic 7 (some .int) 2 := ⟨ws_in (List.mem_of_getElem? (i := 1226) (by decide +kernel)) rfl, ws_in (List.mem_of_getElem? (i := 1227) (by decide +kernel)) rfl, ws_in (List.mem_of_getElem? (i := 1228) (by decide +kernel)) rfl, ws_in (List.mem_of_getElem? (i := 110) (by decide +kernel)) rfl, ws_in (List.mem_of_getElem? (i := 1229) (by decide +kernel)) rfl, ⟨by decide +kernel, by decide +kernel⟩, by decide +kernel, by decide⟩
theorem lk_L_88 : LkV RL 88 yX6_image cX6_image 1 (some .int) 0 := ⟨ws_in (List.mem_of_getElem? (i := 824) (by decide +kernel)) rfl, ws_in (List.mem_of_getElem? (i := 825) (by decide +kernel)) rfl, ws_in (List.mem_of_getElem? (i := 826) (by decide +kernel)) rfl, ws_in (List.mem_of_getElem? (i := 101) (by decide +kernel)) rfl, ws_in (List.mem_of_getElem? (i := 827) (by decide +kernel)) rfl, ⟨by decide +kernel, by decide +kernel⟩, by decide +kernel, by decide⟩
theorem lk_L_92 : LkV RL 92 yX7_image cX7_image 1 (some .int) 0 := ⟨ws_in (List.mem_of_getElem? (i := 1244) (by decide +kernel)) rfl, ws_in (List.mem_of_getElem? (i := 1245) (by decide +kernel)) rfl, ws_in (List.mem_of_getElem? (i := 1246) (by decide +kernel)) rfl, ws_in (List.mem_of_getElem? (i := 110) (by decide +kernel)) rfl, ws_in (List.mem_of_getElem? (i := 1247) (by decide +kernel)) rfl, ⟨by decide +kernel, by decide +kernel⟩, by decide +kernel, by decide⟩
theorem lk_L_93 : LkV RL 93 yX6_undo cX6_undo 1 (some .int) 0 := ⟨ws_in (List.mem_of_getElem? (i := 836) (by decide +kernel)) rfl, ws_in (List.mem_of_getElem? (i := 837) (by decide +kernel)) rfl, ws_in (List.mem_of_getElem? (i := 838) (by decide +kernel)) rfl, ws_in (List.mem_of_getElem? (i := 101) (by decide +kernel)) rfl, ws_in (List.mem_of_getElem? (i := 839) (by decide +kernel)) rfl, ⟨by decide +kernel, by decide +kernel⟩, by decide +kernel, by decide⟩
theorem lk_L_96 : LkV RL 96 yX7_undo cX7_undo 1 (some .int) 0 := ⟨ws_in (List.mem_of_getElem? (i := 1248) (by decide +kernel)) rfl, ws_in (List.mem_of_getElem? (i := 1249) (by decide +kernel)) rfl, ws_in (List.mem_of_getElem? (i := 1250) (by decide +kernel)) rfl, ws_in (List.mem_of_getElem? (i := 110) (by decide +kernel)) rfl, ws_in (List.mem_of_getElem? (i := 1251) (by decide +kernel)) rfl, ⟨by decide +kernel, by decide +kernel⟩, by decide +kernel, by decide⟩
theorem lk_L_97 : LkV RL 97 yX6_count cX6_count 2 (some .int) 1 := ⟨ws_in (List.mem_of_getElem? (i := 840) (by decide +kernel)) rfl, ws_in (List.mem_of_getElem? (i := 841) (by decide +kernel)) rfl, ws_in (List.mem_of_getElem? (i := 842) (by decide +kernel)) rfl, ws_in (List.mem_of_getElem? (i := 101) (by decide +kernel)) rfl, ws_in (List.mem_of_getElem? (i := 843) (by decide +kernel)) rfl, ⟨by decide +kernel, by decide +kernel⟩, by decide +kernel, by decide⟩
theorem lk_L_100 : LkV RL 100 yX7_count cX7_count 2 (some .int) 1 := ⟨ws_in (List.mem_of_getElem? (i := 1252) (by decide +kernel)) rfl, ws_in (List.mem_of_getElem? (i := 1253) (by decide +kernel)) rfl, ws_in (List.mem_of_getElem? (i := 1254) (by decide +kernel)) rfl, ws_in (List.mem_of_getElem? (i := 110) (by decide +kernel)) rfl, ws_in (List.mem_of_getElem? (i := 1255) (by decide +kernel)) rfl, ⟨by decide +kernel, by decide +kernel⟩, by decide +kernel, by decide⟩
section LC1
variable {p : Program} {l : Launch} {e : Env} {s : State} {m : MethodId} {below : List Frame} {meth : Method} {c : Code} {H : Heap} {locs : List Loc} {ls : Array Slot} {Q : State → Prop} {b : Nat} {E : Ev} {ad : Ad3} {va : Nat → Nat → Nat} {am : Nat → Nat} {i L N : Nat} {xs : Nat → Int32}
def SRs (t : T10) (k : K10) (μ : Mem) : Prop := SR t.1 t.2.2.2.2.1 t.2.2.2.2.2.1 t.2.2.2.2.2.2.1 t.2.2.2.2.2.2.2.1 t.2.2.2.2.2.2.2.2.1 t.2.2.2.2.2.2.2.2.2 k.1 k.2.1 k.2.2.1 k.2.2.2.1 k.2.2.2.2.1 μ
/-- both sides stand in the heap, side by side -/
def LwS (E : Ev) (ad : Ad3) (va : Nat → Nat → Nat) (am : Nat → Nat) (s : State) (H : Heap) : Prop := ∃ (t : T10) (k : K10) (μ : Mem), SRs t k μ ∧ va_P E.1 vwCl (hXs E ad va t k ++ hM E am μ) H ∧ va_D (SA s) (hXs E ad va t k ++ hM E am μ)
theorem lc_feed (C : Fx E RL code 4 p s m #[Value.ref b] c) (hX : va_X b L xs s s.heap) (hbl : b < s.heap.size) (hL : L ≤ 2048) (hi : i + 3 < L) (hN : 10000 ≤ N) (hl : lv_has ls 4 [(3, .int (nI i)), (2, .ref (am 0)), (1, .ref (ad 30 0 0)), (0, .ref b)]) (hS : va_S (SA s) s.heap H locs) (hLS : LwS E ad va am s H) (kk : ∀ (H1 : Heap) (locs1 : List Loc), LwS E ad va am s H1 → va_S (SA s) s.heap H1 locs1 → W p l e room_1 s m #[Value.ref b] below meth c H1 locs1 600000 7302250 Q (F0 m 715 ls [])) : W p l e room_1 s m #[Value.ref b] below meth c H locs 600000 7302250 Q (F0 m 132 ls []) := by
  obtain ⟨⟨x, tx, tg, r, w, e0, I, Hh, pl, vs⟩, ⟨w1, e1, I1, H1, pl1, w2, e2, I2, H2, pl2⟩, μ, hSR, hP, hD⟩ := hLS
  have hSR : SR x w e0 I Hh pl vs w1 e1 I1 H1 pl1 μ := hSR
  have hx := C.1
  have hb := C.2.1
  obtain ⟨a, x', μ', s1, s2, s3⟩ := feed_call (xs (i + 1)) hSR
  refine lv_aload_n hx hb dL_132 rfl (lv_at hl 2 rfl) ?_
  refine law_arg (j := 1) hx hb hX hbl hS hl (by omega) hL rfl dL_133 dL_134 dL_135 dL_136 dL_137 ?_
  refine lawP (n := 141) (F := xe_feed (xs (i + 1)) x) (v := (fun q => q.1)) (g := (fun q => (q.2, tx, tg, r, w, e0, I, Hh, pl, vs))) (t := (x, tx, tg, r, w, e0, I, Hh, pl, vs)) (k := (w1, e1, I1, H1, pl1, w2, e2, I2, H2, pl2)) (As := [.int (xs (i + 1))]) (rest := []) C hP hD hS hl.1 lk_L_13 (by rw [s1]; rfl) (c_xe_feed (d := 200) (by omega)) rfl rfl rfl (Nat.le_of_ble_eq_true rfl) dL_138 rfl (fun q Ha la hq hP hD hS => ?_)
  rw [s1] at hq
  cases hq
  refine lv_aload_n hx hb dL_141 rfl (lv_at hl 1 rfl) ?_
  refine law_arg (j := 1) hx hb hX hbl hS hl (by omega) hL rfl dL_142 dL_143 dL_144 dL_145 dL_146 ?_
  refine lawM (n := 150) (F := md_feed (xs (i + 1)) μ) (v := (fun q => q.1)) (g := (fun q => q.2)) (As := [.int (xs (i + 1))]) (rest := [.int a]) C hP hD hS hl.1 lk_L_17 (by rw [s2]; rfl) (c_md_feed (d := 200) (by omega)) rfl rfl rfl (Nat.le_of_ble_eq_true rfl) dL_147 rfl (fun q Hb lb hq hP hD hS => ?_)
  rw [s2] at hq
  cases hq
  refine lv_icmp_eq (tgt := 715) hx hb dL_150 (by decide) (fun _ => ?_) (fun h => absurd rfl h)
  exact kk _ _ ⟨(x', tx, tg, r, w, e0, I, Hh, pl, vs), (w1, e1, I1, H1, pl1, w2, e2, I2, H2, pl2), μ', s3, hP, hD⟩ hS
theorem lc_define (C : Fx E RL code 4 p s m #[Value.ref b] c) (hX : va_X b L xs s s.heap) (hbl : b < s.heap.size) (hL : L ≤ 2048) (hi : i + 3 < L) (hN : 10000 ≤ N) (hl : lv_has ls 4 [(3, .int (nI i)), (2, .ref (am 0)), (1, .ref (ad 30 0 0)), (0, .ref b)]) (hS : va_S (SA s) s.heap H locs) (hLS : LwS E ad va am s H) (kk : ∀ (H1 : Heap) (locs1 : List Loc), LwS E ad va am s H1 → va_S (SA s) s.heap H1 locs1 → W p l e room_1 s m #[Value.ref b] below meth c H1 locs1 600000 7302250 Q (F0 m 715 ls [])) : W p l e room_1 s m #[Value.ref b] below meth c H locs 600000 7302250 Q (F0 m 155 ls []) := by
  obtain ⟨⟨x, tx, tg, r, w, e0, I, Hh, pl, vs⟩, ⟨w1, e1, I1, H1, pl1, w2, e2, I2, H2, pl2⟩, μ, hSR, hP, hD⟩ := hLS
  have hSR : SR x w e0 I Hh pl vs w1 e1 I1 H1 pl1 μ := hSR
  have hx := C.1
  have hb := C.2.1
  obtain ⟨a, x', tx', tg', r', w', vs', μ', s1, s2, s3⟩ := define_call (N := N) (D := 16) (tx := tx) (tg := tg) (r := r) (by omega) (by omega) (xs (i + 1)) hSR
  refine lv_aload_n hx hb dL_155 rfl (lv_at hl 2 rfl) ?_
  refine law_arg (j := 1) hx hb hX hbl hS hl (by omega) hL rfl dL_156 dL_157 dL_158 dL_159 dL_160 ?_
  refine lawP (n := 164) (F := xe_define N 16 (xs (i + 1)) x tx tg r w vs) (v := (fun q => q.1)) (g := (fun q => (q.2.1, q.2.2.1, q.2.2.2.1, q.2.2.2.2.1, q.2.2.2.2.2.1, e0, I, Hh, pl, q.2.2.2.2.2.2))) (t := (x, tx, tg, r, w, e0, I, Hh, pl, vs)) (k := (w1, e1, I1, H1, pl1, w2, e2, I2, H2, pl2)) (As := [.int (xs (i + 1))]) (rest := []) C hP hD hS hl.1 lk_L_18 (by rw [s1]; rfl) (c_xe_define (N := N) (D := 16) (d := 200) (by omega)) rfl rfl rfl (Nat.le_of_ble_eq_true rfl) dL_161 rfl (fun q Ha la hq hP hD hS => ?_)
  rw [s1] at hq
  cases hq
  refine lv_aload_n hx hb dL_164 rfl (lv_at hl 1 rfl) ?_
  refine law_arg (j := 1) hx hb hX hbl hS hl (by omega) hL rfl dL_165 dL_166 dL_167 dL_168 dL_169 ?_
  refine lawM (n := 173) (F := md_define N 16 (xs (i + 1)) μ) (v := (fun q => q.1)) (g := (fun q => q.2)) (As := [.int (xs (i + 1))]) (rest := [.int a]) C hP hD hS hl.1 lk_L_21 (by rw [s2]; rfl) (c_md_define (N := N) (D := 16) (d := 200) (by omega)) rfl rfl rfl (Nat.le_of_ble_eq_true rfl) dL_170 rfl (fun q Hb lb hq hP hD hS => ?_)
  rw [s2] at hq
  cases hq
  refine lv_icmp_eq (tgt := 715) hx hb dL_173 (by decide) (fun _ => ?_) (fun h => absurd rfl h)
  exact kk _ _ ⟨(x', tx', tg', r', w', e0, I, Hh, pl, vs'), (w1, e1, I1, H1, pl1, w2, e2, I2, H2, pl2), μ', s3, hP, hD⟩ hS
theorem lc_wrong (C : Fx E RL code 4 p s m #[Value.ref b] c) (hX : va_X b L xs s s.heap) (hbl : b < s.heap.size) (hL : L ≤ 2048) (hi : i + 3 < L) (hN : 10000 ≤ N) (hl : lv_has ls 4 [(3, .int (nI i)), (2, .ref (am 0)), (1, .ref (ad 30 0 0)), (0, .ref b)]) (hS : va_S (SA s) s.heap H locs) (hLS : LwS E ad va am s H) (kk : ∀ (H1 : Heap) (locs1 : List Loc), LwS E ad va am s H1 → va_S (SA s) s.heap H1 locs1 → W p l e room_1 s m #[Value.ref b] below meth c H1 locs1 600000 7302250 Q (F0 m 715 ls [])) : W p l e room_1 s m #[Value.ref b] below meth c H locs 600000 7302250 Q (F0 m 178 ls []) := by
  obtain ⟨⟨x, tx, tg, r, w, e0, I, Hh, pl, vs⟩, ⟨w1, e1, I1, H1, pl1, w2, e2, I2, H2, pl2⟩, μ, hSR, hP, hD⟩ := hLS
  have hSR : SR x w e0 I Hh pl vs w1 e1 I1 H1 pl1 μ := hSR
  have hx := C.1
  have hb := C.2.1
  obtain ⟨a, s1, s2⟩ := wrong_sim (xs (i + 1)) hSR.2.1.2.2.1
  refine lv_aload_n hx hb dL_178 rfl (lv_at hl 2 rfl) ?_
  refine law_arg (j := 1) hx hb hX hbl hS hl (by omega) hL rfl dL_179 dL_180 dL_181 dL_182 dL_183 ?_
  refine lawP (n := 187) (F := xe_wrong w (xs (i + 1))) (v := (fun q => q)) (g := (fun _ => (x, tx, tg, r, w, e0, I, Hh, pl, vs))) (t := (x, tx, tg, r, w, e0, I, Hh, pl, vs)) (k := (w1, e1, I1, H1, pl1, w2, e2, I2, H2, pl2)) (As := [.int (xs (i + 1))]) (rest := []) C hP hD hS hl.1 lk_L_22 (by rw [s1]; rfl) (c_xe_wrong (d := 200) (by omega)) rfl rfl rfl (Nat.le_of_ble_eq_true rfl) dL_184 rfl (fun q Ha la hq hP hD hS => ?_)
  rw [s1] at hq
  cases hq
  refine lv_aload_n hx hb dL_187 rfl (lv_at hl 1 rfl) ?_
  refine law_arg (j := 1) hx hb hX hbl hS hl (by omega) hL rfl dL_188 dL_189 dL_190 dL_191 dL_192 ?_
  refine lawM (n := 196) (F := md_wrong μ (xs (i + 1))) (v := (fun q => q)) (g := (fun _ => μ)) (As := [.int (xs (i + 1))]) (rest := [.int a]) C hP hD hS hl.1 lk_L_25 (by rw [s2]; rfl) (c_md_wrong (d := 200) (by omega)) rfl rfl rfl (Nat.le_of_ble_eq_true rfl) dL_193 rfl (fun q Hb lb hq hP hD hS => ?_)
  rw [s2] at hq
  cases hq
  refine lv_icmp_eq (tgt := 715) hx hb dL_196 (by decide) (fun _ => ?_) (fun h => absurd rfl h)
  exact kk _ _ ⟨(x, tx, tg, r, w, e0, I, Hh, pl, vs), (w1, e1, I1, H1, pl1, w2, e2, I2, H2, pl2), μ, hSR, hP, hD⟩ hS
theorem lc_version (C : Fx E RL code 4 p s m #[Value.ref b] c) (hX : va_X b L xs s s.heap) (hbl : b < s.heap.size) (hL : L ≤ 2048) (hi : i + 3 < L) (hN : 10000 ≤ N) (hl : lv_has ls 4 [(3, .int (nI i)), (2, .ref (am 0)), (1, .ref (ad 30 0 0)), (0, .ref b)]) (hS : va_S (SA s) s.heap H locs) (hLS : LwS E ad va am s H) (kk : ∀ (H1 : Heap) (locs1 : List Loc), LwS E ad va am s H1 → va_S (SA s) s.heap H1 locs1 → W p l e room_1 s m #[Value.ref b] below meth c H1 locs1 600000 7302250 Q (F0 m 715 ls [])) : W p l e room_1 s m #[Value.ref b] below meth c H locs 600000 7302250 Q (F0 m 201 ls []) := by
  obtain ⟨⟨x, tx, tg, r, w, e0, I, Hh, pl, vs⟩, ⟨w1, e1, I1, H1, pl1, w2, e2, I2, H2, pl2⟩, μ, hSR, hP, hD⟩ := hLS
  have hSR : SR x w e0 I Hh pl vs w1 e1 I1 H1 pl1 μ := hSR
  have hx := C.1
  have hb := C.2.1
  obtain ⟨a, s1, s2⟩ := version_sim (N := N) (D := 16) (by omega) (by omega) hSR.2.1.2.2.2.1 (xs (i + 1)) (xs (i + 2)) (xs (i + 3))
  refine lv_aload_n hx hb dL_201 rfl (lv_at hl 2 rfl) ?_
  refine law_arg (j := 1) hx hb hX hbl hS hl (by omega) hL rfl dL_202 dL_203 dL_204 dL_205 dL_206 ?_
  refine law_arg (j := 2) hx hb hX hbl hS hl (by omega) hL rfl dL_207 dL_208 dL_209 dL_210 dL_211 ?_
  refine law_arg (j := 3) hx hb hX hbl hS hl (by omega) hL rfl dL_212 dL_213 dL_214 dL_215 dL_216 ?_
  refine lawP (n := 220) (F := xe_version vs w (xs (i + 1)) (xs (i + 2)) (xs (i + 3))) (v := (fun q => q)) (g := (fun _ => (x, tx, tg, r, w, e0, I, Hh, pl, vs))) (t := (x, tx, tg, r, w, e0, I, Hh, pl, vs)) (k := (w1, e1, I1, H1, pl1, w2, e2, I2, H2, pl2)) (As := [.int (xs (i + 1)), .int (xs (i + 2)), .int (xs (i + 3))]) (rest := []) C hP hD hS hl.1 lk_L_26 (by rw [s1]; rfl) (c_xe_version (d := 200) (by omega)) rfl rfl rfl (Nat.le_of_ble_eq_true rfl) dL_217 rfl (fun q Ha la hq hP hD hS => ?_)
  rw [s1] at hq
  cases hq
  refine lv_aload_n hx hb dL_220 rfl (lv_at hl 1 rfl) ?_
  refine law_arg (j := 1) hx hb hX hbl hS hl (by omega) hL rfl dL_221 dL_222 dL_223 dL_224 dL_225 ?_
  refine law_arg (j := 2) hx hb hX hbl hS hl (by omega) hL rfl dL_226 dL_227 dL_228 dL_229 dL_230 ?_
  refine law_arg (j := 3) hx hb hX hbl hS hl (by omega) hL rfl dL_231 dL_232 dL_233 dL_234 dL_235 ?_
  refine lawM (n := 239) (F := md_version N 16 μ (xs (i + 1)) (xs (i + 2)) (xs (i + 3))) (v := (fun q => q)) (g := (fun _ => μ)) (As := [.int (xs (i + 1)), .int (xs (i + 2)), .int (xs (i + 3))]) (rest := [.int a]) C hP hD hS hl.1 lk_L_30 (by rw [s2]; rfl) (c_md_version (N := N) (D := 16) (d := 200) (by omega)) rfl rfl rfl (Nat.le_of_ble_eq_true rfl) dL_236 rfl (fun q Hb lb hq hP hD hS => ?_)
  rw [s2] at hq
  cases hq
  refine lv_icmp_eq (tgt := 715) hx hb dL_239 (by decide) (fun _ => ?_) (fun h => absurd rfl h)
  exact kk _ _ ⟨(x, tx, tg, r, w, e0, I, Hh, pl, vs), (w1, e1, I1, H1, pl1, w2, e2, I2, H2, pl2), μ, hSR, hP, hD⟩ hS
theorem lc_duration (C : Fx E RL code 4 p s m #[Value.ref b] c) (hX : va_X b L xs s s.heap) (hbl : b < s.heap.size) (hL : L ≤ 2048) (hi : i + 3 < L) (hN : 10000 ≤ N) (hl : lv_has ls 4 [(3, .int (nI i)), (2, .ref (am 0)), (1, .ref (ad 30 0 0)), (0, .ref b)]) (hS : va_S (SA s) s.heap H locs) (hLS : LwS E ad va am s H) (kk : ∀ (H1 : Heap) (locs1 : List Loc), LwS E ad va am s H1 → va_S (SA s) s.heap H1 locs1 → W p l e room_1 s m #[Value.ref b] below meth c H1 locs1 600000 7302250 Q (F0 m 715 ls [])) : W p l e room_1 s m #[Value.ref b] below meth c H locs 600000 7302250 Q (F0 m 244 ls []) := by
  obtain ⟨⟨x, tx, tg, r, w, e0, I, Hh, pl, vs⟩, ⟨w1, e1, I1, H1, pl1, w2, e2, I2, H2, pl2⟩, μ, hSR, hP, hD⟩ := hLS
  have hSR : SR x w e0 I Hh pl vs w1 e1 I1 H1 pl1 μ := hSR
  have hx := C.1
  have hb := C.2.1
  obtain ⟨a, e0', μ', s1, s2, s3⟩ := duration_call (xs (i + 1)) (xs (i + 2)) hSR
  refine lv_aload_n hx hb dL_244 rfl (lv_at hl 2 rfl) ?_
  refine law_arg (j := 1) hx hb hX hbl hS hl (by omega) hL rfl dL_245 dL_246 dL_247 dL_248 dL_249 ?_
  refine law_arg (j := 2) hx hb hX hbl hS hl (by omega) hL rfl dL_250 dL_251 dL_252 dL_253 dL_254 ?_
  refine lawP (n := 258) (F := xe_duration (xs (i + 1)) (xs (i + 2)) e0) (v := (fun q => q.1)) (g := (fun q => (x, tx, tg, r, w, q.2, I, Hh, pl, vs))) (t := (x, tx, tg, r, w, e0, I, Hh, pl, vs)) (k := (w1, e1, I1, H1, pl1, w2, e2, I2, H2, pl2)) (As := [.int (xs (i + 1)), .int (xs (i + 2))]) (rest := []) C hP hD hS hl.1 lk_L_31 (by rw [s1]; rfl) (c_xe_duration (d := 200) (by omega)) rfl rfl rfl (Nat.le_of_ble_eq_true rfl) dL_255 rfl (fun q Ha la hq hP hD hS => ?_)
  rw [s1] at hq
  cases hq
  refine lv_aload_n hx hb dL_258 rfl (lv_at hl 1 rfl) ?_
  refine law_arg (j := 1) hx hb hX hbl hS hl (by omega) hL rfl dL_259 dL_260 dL_261 dL_262 dL_263 ?_
  refine law_arg (j := 2) hx hb hX hbl hS hl (by omega) hL rfl dL_264 dL_265 dL_266 dL_267 dL_268 ?_
  refine lawM (n := 272) (F := md_duration (xs (i + 1)) (xs (i + 2)) μ) (v := (fun q => q.1)) (g := (fun q => q.2)) (As := [.int (xs (i + 1)), .int (xs (i + 2))]) (rest := [.int a]) C hP hD hS hl.1 lk_L_35 (by rw [s2]; rfl) (c_md_duration (d := 200) (by omega)) rfl rfl rfl (Nat.le_of_ble_eq_true rfl) dL_269 rfl (fun q Hb lb hq hP hD hS => ?_)
  rw [s2] at hq
  cases hq
  refine lv_icmp_eq (tgt := 715) hx hb dL_272 (by decide) (fun _ => ?_) (fun h => absurd rfl h)
  exact kk _ _ ⟨(x, tx, tg, r, w, e0', I, Hh, pl, vs), (w1, e1, I1, H1, pl1, w2, e2, I2, H2, pl2), μ', s3, hP, hD⟩ hS
theorem lc_failures (C : Fx E RL code 4 p s m #[Value.ref b] c) (hX : va_X b L xs s s.heap) (hbl : b < s.heap.size) (hL : L ≤ 2048) (hi : i + 3 < L) (hN : 10000 ≤ N) (hl : lv_has ls 4 [(3, .int (nI i)), (2, .ref (am 0)), (1, .ref (ad 30 0 0)), (0, .ref b)]) (hS : va_S (SA s) s.heap H locs) (hLS : LwS E ad va am s H) (kk : ∀ (H1 : Heap) (locs1 : List Loc), LwS E ad va am s H1 → va_S (SA s) s.heap H1 locs1 → W p l e room_1 s m #[Value.ref b] below meth c H1 locs1 600000 7302250 Q (F0 m 715 ls [])) : W p l e room_1 s m #[Value.ref b] below meth c H locs 600000 7302250 Q (F0 m 277 ls []) := by
  obtain ⟨⟨x, tx, tg, r, w, e0, I, Hh, pl, vs⟩, ⟨w1, e1, I1, H1, pl1, w2, e2, I2, H2, pl2⟩, μ, hSR, hP, hD⟩ := hLS
  have hSR : SR x w e0 I Hh pl vs w1 e1 I1 H1 pl1 μ := hSR
  have hx := C.1
  have hb := C.2.1
  obtain ⟨a, e0', μ', s1, s2, s3⟩ := failures_call (xs (i + 1)) (xs (i + 2)) hSR
  refine lv_aload_n hx hb dL_277 rfl (lv_at hl 2 rfl) ?_
  refine law_arg (j := 1) hx hb hX hbl hS hl (by omega) hL rfl dL_278 dL_279 dL_280 dL_281 dL_282 ?_
  refine law_arg (j := 2) hx hb hX hbl hS hl (by omega) hL rfl dL_283 dL_284 dL_285 dL_286 dL_287 ?_
  refine lawP (n := 291) (F := xe_failures (xs (i + 1)) (xs (i + 2)) e0) (v := (fun q => q.1)) (g := (fun q => (x, tx, tg, r, w, q.2, I, Hh, pl, vs))) (t := (x, tx, tg, r, w, e0, I, Hh, pl, vs)) (k := (w1, e1, I1, H1, pl1, w2, e2, I2, H2, pl2)) (As := [.int (xs (i + 1)), .int (xs (i + 2))]) (rest := []) C hP hD hS hl.1 lk_L_36 (by rw [s1]; rfl) (c_xe_failures (d := 200) (by omega)) rfl rfl rfl (Nat.le_of_ble_eq_true rfl) dL_288 rfl (fun q Ha la hq hP hD hS => ?_)
  rw [s1] at hq
  cases hq
  refine lv_aload_n hx hb dL_291 rfl (lv_at hl 1 rfl) ?_
  refine law_arg (j := 1) hx hb hX hbl hS hl (by omega) hL rfl dL_292 dL_293 dL_294 dL_295 dL_296 ?_
  refine law_arg (j := 2) hx hb hX hbl hS hl (by omega) hL rfl dL_297 dL_298 dL_299 dL_300 dL_301 ?_
  refine lawM (n := 305) (F := md_failures (xs (i + 1)) (xs (i + 2)) μ) (v := (fun q => q.1)) (g := (fun q => q.2)) (As := [.int (xs (i + 1)), .int (xs (i + 2))]) (rest := [.int a]) C hP hD hS hl.1 lk_L_39 (by rw [s2]; rfl) (c_md_failures (d := 200) (by omega)) rfl rfl rfl (Nat.le_of_ble_eq_true rfl) dL_302 rfl (fun q Hb lb hq hP hD hS => ?_)
  rw [s2] at hq
  cases hq
  refine lv_icmp_eq (tgt := 715) hx hb dL_305 (by decide) (fun _ => ?_) (fun h => absurd rfl h)
  exact kk _ _ ⟨(x, tx, tg, r, w, e0', I, Hh, pl, vs), (w1, e1, I1, H1, pl1, w2, e2, I2, H2, pl2), μ', s3, hP, hD⟩ hS
theorem lc_start (C : Fx E RL code 4 p s m #[Value.ref b] c) (hX : va_X b L xs s s.heap) (hbl : b < s.heap.size) (hL : L ≤ 2048) (hi : i + 3 < L) (hN : 10000 ≤ N) (hl : lv_has ls 4 [(3, .int (nI i)), (2, .ref (am 0)), (1, .ref (ad 30 0 0)), (0, .ref b)]) (hS : va_S (SA s) s.heap H locs) (hLS : LwS E ad va am s H) (kk : ∀ (H1 : Heap) (locs1 : List Loc), LwS E ad va am s H1 → va_S (SA s) s.heap H1 locs1 → W p l e room_1 s m #[Value.ref b] below meth c H1 locs1 600000 7302250 Q (F0 m 715 ls [])) : W p l e room_1 s m #[Value.ref b] below meth c H locs 600000 7302250 Q (F0 m 310 ls []) := by
  obtain ⟨⟨x, tx, tg, r, w, e0, I, Hh, pl, vs⟩, ⟨w1, e1, I1, H1, pl1, w2, e2, I2, H2, pl2⟩, μ, hSR, hP, hD⟩ := hLS
  have hSR : SR x w e0 I Hh pl vs w1 e1 I1 H1 pl1 μ := hSR
  have hx := C.1
  have hb := C.2.1
  obtain ⟨a, e0', I', Hh', pl', μ', s1, s2, s3, s4⟩ := start_call (N := N) (D := 16) (by omega) (by omega) (Or.inr rfl) (xs (i + 1)) hSR.2.1
  refine lv_aload_n hx hb dL_310 rfl (lv_at hl 2 rfl) ?_
  refine law_arg (j := 1) hx hb hX hbl hS hl (by omega) hL rfl dL_311 dL_312 dL_313 dL_314 dL_315 ?_
  refine lawP (n := 319) (F := xe_start N 16 200 vs w (xs (i + 1)) e0 I Hh pl) (v := (fun q => q.1)) (g := (fun q => (x, tx, tg, r, w, q.2.1, q.2.2.1, q.2.2.2.1, q.2.2.2.2, vs))) (t := (x, tx, tg, r, w, e0, I, Hh, pl, vs)) (k := (w1, e1, I1, H1, pl1, w2, e2, I2, H2, pl2)) (As := [.int (xs (i + 1))]) (rest := []) C hP hD hS hl.1 lk_L_40 (by rw [s1]; rfl) (c_xe_start (N := N) (D := 16) (d := 200) (by omega)) rfl rfl rfl (Nat.le_of_ble_eq_true rfl) dL_316 rfl (fun q Ha la hq hP hD hS => ?_)
  rw [s1] at hq
  cases hq
  refine lv_aload_n hx hb dL_319 rfl (lv_at hl 1 rfl) ?_
  refine law_arg (j := 1) hx hb hX hbl hS hl (by omega) hL rfl dL_320 dL_321 dL_322 dL_323 dL_324 ?_
  refine lawM (n := 328) (F := md_start N 16 (xs (i + 1)) μ) (v := (fun q => q.1)) (g := (fun q => q.2)) (As := [.int (xs (i + 1))]) (rest := [.int a]) C hP hD hS hl.1 lk_L_43 (by rw [s2]; rfl) (c_md_start (N := N) (D := 16) (d := 200) (by omega)) rfl rfl rfl (Nat.le_of_ble_eq_true rfl) dL_325 rfl (fun q Hb lb hq hP hD hS => ?_)
  rw [s2] at hq
  cases hq
  refine lv_icmp_eq (tgt := 715) hx hb dL_328 (by decide) (fun _ => ?_) (fun h => absurd rfl h)
  exact kk _ _ ⟨(x, tx, tg, r, w, e0', I', Hh', pl', vs), (w1, e1, I1, H1, pl1, w2, e2, I2, H2, pl2), μ', hSR.row5 s3 s4, hP, hD⟩ hS
theorem lc_signal (C : Fx E RL code 4 p s m #[Value.ref b] c) (hX : va_X b L xs s s.heap) (hbl : b < s.heap.size) (hL : L ≤ 2048) (hi : i + 3 < L) (hN : 10000 ≤ N) (hl : lv_has ls 4 [(3, .int (nI i)), (2, .ref (am 0)), (1, .ref (ad 30 0 0)), (0, .ref b)]) (hS : va_S (SA s) s.heap H locs) (hLS : LwS E ad va am s H) (kk : ∀ (H1 : Heap) (locs1 : List Loc), LwS E ad va am s H1 → va_S (SA s) s.heap H1 locs1 → W p l e room_1 s m #[Value.ref b] below meth c H1 locs1 600000 7302250 Q (F0 m 715 ls [])) : W p l e room_1 s m #[Value.ref b] below meth c H locs 600000 7302250 Q (F0 m 333 ls []) := by
  obtain ⟨⟨x, tx, tg, r, w, e0, I, Hh, pl, vs⟩, ⟨w1, e1, I1, H1, pl1, w2, e2, I2, H2, pl2⟩, μ, hSR, hP, hD⟩ := hLS
  have hSR : SR x w e0 I Hh pl vs w1 e1 I1 H1 pl1 μ := hSR
  have hx := C.1
  have hb := C.2.1
  obtain ⟨a, I', μ', s1, s2, s3, s4⟩ := signal_call (xs (i + 1)) (xs (i + 2)) hSR.2.1
  refine lv_aload_n hx hb dL_333 rfl (lv_at hl 2 rfl) ?_
  refine law_arg (j := 1) hx hb hX hbl hS hl (by omega) hL rfl dL_334 dL_335 dL_336 dL_337 dL_338 ?_
  refine law_arg (j := 2) hx hb hX hbl hS hl (by omega) hL rfl dL_339 dL_340 dL_341 dL_342 dL_343 ?_
  refine lawP (n := 347) (F := xe_signal (xs (i + 1)) (xs (i + 2)) I) (v := (fun q => q.1)) (g := (fun q => (x, tx, tg, r, w, e0, q.2, Hh, pl, vs))) (t := (x, tx, tg, r, w, e0, I, Hh, pl, vs)) (k := (w1, e1, I1, H1, pl1, w2, e2, I2, H2, pl2)) (As := [.int (xs (i + 1)), .int (xs (i + 2))]) (rest := []) C hP hD hS hl.1 lk_L_44 (by rw [s1]; rfl) (c_xe_signal (d := 200) (by omega)) rfl rfl rfl (Nat.le_of_ble_eq_true rfl) dL_344 rfl (fun q Ha la hq hP hD hS => ?_)
  rw [s1] at hq
  cases hq
  refine lv_aload_n hx hb dL_347 rfl (lv_at hl 1 rfl) ?_
  refine law_arg (j := 1) hx hb hX hbl hS hl (by omega) hL rfl dL_348 dL_349 dL_350 dL_351 dL_352 ?_
  refine law_arg (j := 2) hx hb hX hbl hS hl (by omega) hL rfl dL_353 dL_354 dL_355 dL_356 dL_357 ?_
  refine lawM (n := 361) (F := md_signal (xs (i + 1)) (xs (i + 2)) μ) (v := (fun q => q.1)) (g := (fun q => q.2)) (As := [.int (xs (i + 1)), .int (xs (i + 2))]) (rest := [.int a]) C hP hD hS hl.1 lk_L_47 (by rw [s2]; rfl) (c_md_signal (d := 200) (by omega)) rfl rfl rfl (Nat.le_of_ble_eq_true rfl) dL_358 rfl (fun q Hb lb hq hP hD hS => ?_)
  rw [s2] at hq
  cases hq
  refine lv_icmp_eq (tgt := 715) hx hb dL_361 (by decide) (fun _ => ?_) (fun h => absurd rfl h)
  exact kk _ _ ⟨(x, tx, tg, r, w, e0, I', Hh, pl, vs), (w1, e1, I1, H1, pl1, w2, e2, I2, H2, pl2), μ', hSR.row5 s3 s4, hP, hD⟩ hS
theorem lc_abort (C : Fx E RL code 4 p s m #[Value.ref b] c) (hX : va_X b L xs s s.heap) (hbl : b < s.heap.size) (hL : L ≤ 2048) (hi : i + 3 < L) (hN : 10000 ≤ N) (hl : lv_has ls 4 [(3, .int (nI i)), (2, .ref (am 0)), (1, .ref (ad 30 0 0)), (0, .ref b)]) (hS : va_S (SA s) s.heap H locs) (hLS : LwS E ad va am s H) (kk : ∀ (H1 : Heap) (locs1 : List Loc), LwS E ad va am s H1 → va_S (SA s) s.heap H1 locs1 → W p l e room_1 s m #[Value.ref b] below meth c H1 locs1 600000 7302250 Q (F0 m 715 ls [])) : W p l e room_1 s m #[Value.ref b] below meth c H locs 600000 7302250 Q (F0 m 366 ls []) := by
  obtain ⟨⟨x, tx, tg, r, w, e0, I, Hh, pl, vs⟩, ⟨w1, e1, I1, H1, pl1, w2, e2, I2, H2, pl2⟩, μ, hSR, hP, hD⟩ := hLS
  have hSR : SR x w e0 I Hh pl vs w1 e1 I1 H1 pl1 μ := hSR
  have hx := C.1
  have hb := C.2.1
  obtain ⟨a, e0', I', Hh', μ', s1, s2, s3, s4⟩ := abort_call (N := N) (D := 16) (by omega) (by omega) (xs (i + 1)) hSR.2.1
  refine lv_aload_n hx hb dL_366 rfl (lv_at hl 2 rfl) ?_
  refine law_arg (j := 1) hx hb hX hbl hS hl (by omega) hL rfl dL_367 dL_368 dL_369 dL_370 dL_371 ?_
  refine lawP (n := 375) (F := xe_abort N 16 200 pl vs (xs (i + 1)) e0 I Hh) (v := (fun q => q.1)) (g := (fun q => (x, tx, tg, r, w, q.2.1, q.2.2.1, q.2.2.2, pl, vs))) (t := (x, tx, tg, r, w, e0, I, Hh, pl, vs)) (k := (w1, e1, I1, H1, pl1, w2, e2, I2, H2, pl2)) (As := [.int (xs (i + 1))]) (rest := []) C hP hD hS hl.1 lk_L_48 (by rw [s1]; rfl) (c_xe_abort (N := N) (D := 16) (d := 200) (by omega)) rfl rfl rfl (Nat.le_of_ble_eq_true rfl) dL_372 rfl (fun q Ha la hq hP hD hS => ?_)
  rw [s1] at hq
  cases hq
  refine lv_aload_n hx hb dL_375 rfl (lv_at hl 1 rfl) ?_
  refine law_arg (j := 1) hx hb hX hbl hS hl (by omega) hL rfl dL_376 dL_377 dL_378 dL_379 dL_380 ?_
  refine lawM (n := 384) (F := md_abort N 16 (xs (i + 1)) μ) (v := (fun q => q.1)) (g := (fun q => q.2)) (As := [.int (xs (i + 1))]) (rest := [.int a]) C hP hD hS hl.1 lk_L_51 (by rw [s2]; rfl) (c_md_abort (N := N) (D := 16) (d := 200) (by omega)) rfl rfl rfl (Nat.le_of_ble_eq_true rfl) dL_381 rfl (fun q Hb lb hq hP hD hS => ?_)
  rw [s2] at hq
  cases hq
  refine lv_icmp_eq (tgt := 715) hx hb dL_384 (by decide) (fun _ => ?_) (fun h => absurd rfl h)
  exact kk _ _ ⟨(x, tx, tg, r, w, e0', I', Hh', pl, vs), (w1, e1, I1, H1, pl1, w2, e2, I2, H2, pl2), μ', hSR.row5 s3 s4, hP, hD⟩ hS
theorem lc_remove (C : Fx E RL code 4 p s m #[Value.ref b] c) (hX : va_X b L xs s s.heap) (hbl : b < s.heap.size) (hL : L ≤ 2048) (hi : i + 3 < L) (hN : 10000 ≤ N) (hl : lv_has ls 4 [(3, .int (nI i)), (2, .ref (am 0)), (1, .ref (ad 30 0 0)), (0, .ref b)]) (hS : va_S (SA s) s.heap H locs) (hLS : LwS E ad va am s H) (kk : ∀ (H1 : Heap) (locs1 : List Loc), LwS E ad va am s H1 → va_S (SA s) s.heap H1 locs1 → W p l e room_1 s m #[Value.ref b] below meth c H1 locs1 600000 7302250 Q (F0 m 715 ls [])) : W p l e room_1 s m #[Value.ref b] below meth c H locs 600000 7302250 Q (F0 m 389 ls []) := by
  obtain ⟨⟨x, tx, tg, r, w, e0, I, Hh, pl, vs⟩, ⟨w1, e1, I1, H1, pl1, w2, e2, I2, H2, pl2⟩, μ, hSR, hP, hD⟩ := hLS
  have hSR : SR x w e0 I Hh pl vs w1 e1 I1 H1 pl1 μ := hSR
  have hx := C.1
  have hb := C.2.1
  obtain ⟨a, I', μ', s1, s2, s3, s4⟩ := remove_sim (xs (i + 1)) hSR.2.1
  refine lv_aload_n hx hb dL_389 rfl (lv_at hl 2 rfl) ?_
  refine law_arg (j := 1) hx hb hX hbl hS hl (by omega) hL rfl dL_390 dL_391 dL_392 dL_393 dL_394 ?_
  refine lawP (n := 398) (F := xe_remove pl (xs (i + 1)) I) (v := (fun q => q.1)) (g := (fun q => (x, tx, tg, r, w, e0, q.2, Hh, pl, vs))) (t := (x, tx, tg, r, w, e0, I, Hh, pl, vs)) (k := (w1, e1, I1, H1, pl1, w2, e2, I2, H2, pl2)) (As := [.int (xs (i + 1))]) (rest := []) C hP hD hS hl.1 lk_L_52 (by rw [s1]; rfl) (c_xe_remove (d := 200) (by omega)) rfl rfl rfl (Nat.le_of_ble_eq_true rfl) dL_395 rfl (fun q Ha la hq hP hD hS => ?_)
  rw [s1] at hq
  cases hq
  refine lv_aload_n hx hb dL_398 rfl (lv_at hl 1 rfl) ?_
  refine law_arg (j := 1) hx hb hX hbl hS hl (by omega) hL rfl dL_399 dL_400 dL_401 dL_402 dL_403 ?_
  refine lawM (n := 407) (F := md_remove (xs (i + 1)) μ) (v := (fun q => q.1)) (g := (fun q => q.2)) (As := [.int (xs (i + 1))]) (rest := [.int a]) C hP hD hS hl.1 lk_L_55 (by rw [s2]; rfl) (c_md_remove (d := 200) (by omega)) rfl rfl rfl (Nat.le_of_ble_eq_true rfl) dL_404 rfl (fun q Hb lb hq hP hD hS => ?_)
  rw [s2] at hq
  cases hq
  refine lv_icmp_eq (tgt := 715) hx hb dL_407 (by decide) (fun _ => ?_) (fun h => absurd rfl h)
  exact kk _ _ ⟨(x, tx, tg, r, w, e0, I', Hh, pl, vs), (w1, e1, I1, H1, pl1, w2, e2, I2, H2, pl2), μ', hSR.row5 s3 s4, hP, hD⟩ hS
theorem lc_pass (C : Fx E RL code 4 p s m #[Value.ref b] c) (hX : va_X b L xs s s.heap) (hbl : b < s.heap.size) (hL : L ≤ 2048) (hi : i + 3 < L) (hN : 10000 ≤ N) (hl : lv_has ls 4 [(3, .int (nI i)), (2, .ref (am 0)), (1, .ref (ad 30 0 0)), (0, .ref b)]) (hS : va_S (SA s) s.heap H locs) (hLS : LwS E ad va am s H) (kk : ∀ (H1 : Heap) (locs1 : List Loc), LwS E ad va am s H1 → va_S (SA s) s.heap H1 locs1 → W p l e room_1 s m #[Value.ref b] below meth c H1 locs1 600000 7302250 Q (F0 m 715 ls [])) : W p l e room_1 s m #[Value.ref b] below meth c H locs 600000 7302250 Q (F0 m 412 ls []) := by
  obtain ⟨⟨x, tx, tg, r, w, e0, I, Hh, pl, vs⟩, ⟨w1, e1, I1, H1, pl1, w2, e2, I2, H2, pl2⟩, μ, hSR, hP, hD⟩ := hLS
  have hSR : SR x w e0 I Hh pl vs w1 e1 I1 H1 pl1 μ := hSR
  have hx := C.1
  have hb := C.2.1
  obtain ⟨a, e0', I', Hh', μ', s1, s2, s3, s4⟩ := pass_call (N := N) (D := 16) (by omega) (by omega) (xs (i + 1)) hSR.2.1
  refine lv_aload_n hx hb dL_412 rfl (lv_at hl 2 rfl) ?_
  refine law_arg (j := 1) hx hb hX hbl hS hl (by omega) hL rfl dL_413 dL_414 dL_415 dL_416 dL_417 ?_
  refine lawP (n := 421) (F := xe_pass N 16 200 pl vs (xs (i + 1)) e0 I Hh) (v := (fun q => q.1)) (g := (fun q => (x, tx, tg, r, w, q.2.1, q.2.2.1, q.2.2.2, pl, vs))) (t := (x, tx, tg, r, w, e0, I, Hh, pl, vs)) (k := (w1, e1, I1, H1, pl1, w2, e2, I2, H2, pl2)) (As := [.int (xs (i + 1))]) (rest := []) C hP hD hS hl.1 lk_L_56 (by rw [s1]; rfl) (c_xe_pass (N := N) (D := 16) (d := 200) (by omega)) rfl rfl rfl (Nat.le_of_ble_eq_true rfl) dL_418 rfl (fun q Ha la hq hP hD hS => ?_)
  rw [s1] at hq
  cases hq
  refine lv_aload_n hx hb dL_421 rfl (lv_at hl 1 rfl) ?_
  refine law_arg (j := 1) hx hb hX hbl hS hl (by omega) hL rfl dL_422 dL_423 dL_424 dL_425 dL_426 ?_
  refine lawM (n := 430) (F := md_pass N 16 (xs (i + 1)) μ) (v := (fun q => q.1)) (g := (fun q => q.2)) (As := [.int (xs (i + 1))]) (rest := [.int a]) C hP hD hS hl.1 lk_L_59 (by rw [s2]; rfl) (c_md_pass (N := N) (D := 16) (d := 200) (by omega)) rfl rfl rfl (Nat.le_of_ble_eq_true rfl) dL_427 rfl (fun q Hb lb hq hP hD hS => ?_)
  rw [s2] at hq
  cases hq
  refine lv_icmp_eq (tgt := 715) hx hb dL_430 (by decide) (fun _ => ?_) (fun h => absurd rfl h)
  exact kk _ _ ⟨(x, tx, tg, r, w, e0', I', Hh', pl, vs), (w1, e1, I1, H1, pl1, w2, e2, I2, H2, pl2), μ', hSR.row5 s3 s4, hP, hD⟩ hS
theorem lc_instance (C : Fx E RL code 4 p s m #[Value.ref b] c) (hX : va_X b L xs s s.heap) (hbl : b < s.heap.size) (hL : L ≤ 2048) (hi : i + 3 < L) (hN : 10000 ≤ N) (hl : lv_has ls 4 [(3, .int (nI i)), (2, .ref (am 0)), (1, .ref (ad 30 0 0)), (0, .ref b)]) (hS : va_S (SA s) s.heap H locs) (hLS : LwS E ad va am s H) (kk : ∀ (H1 : Heap) (locs1 : List Loc), LwS E ad va am s H1 → va_S (SA s) s.heap H1 locs1 → W p l e room_1 s m #[Value.ref b] below meth c H1 locs1 600000 7302250 Q (F0 m 715 ls [])) : W p l e room_1 s m #[Value.ref b] below meth c H locs 600000 7302250 Q (F0 m 435 ls []) := by
  obtain ⟨⟨x, tx, tg, r, w, e0, I, Hh, pl, vs⟩, ⟨w1, e1, I1, H1, pl1, w2, e2, I2, H2, pl2⟩, μ, hSR, hP, hD⟩ := hLS
  have hSR : SR x w e0 I Hh pl vs w1 e1 I1 H1 pl1 μ := hSR
  have hx := C.1
  have hb := C.2.1
  obtain ⟨a, s1, s2⟩ := instance_call (xs (i + 1)) (xs (i + 2)) hSR.2.1
  refine lv_aload_n hx hb dL_435 rfl (lv_at hl 2 rfl) ?_
  refine law_arg (j := 1) hx hb hX hbl hS hl (by omega) hL rfl dL_436 dL_437 dL_438 dL_439 dL_440 ?_
  refine law_arg (j := 2) hx hb hX hbl hS hl (by omega) hL rfl dL_441 dL_442 dL_443 dL_444 dL_445 ?_
  refine lawP (n := 449) (F := xe_instance pl vs I Hh (xs (i + 1)) (xs (i + 2))) (v := (fun q => q)) (g := (fun _ => (x, tx, tg, r, w, e0, I, Hh, pl, vs))) (t := (x, tx, tg, r, w, e0, I, Hh, pl, vs)) (k := (w1, e1, I1, H1, pl1, w2, e2, I2, H2, pl2)) (As := [.int (xs (i + 1)), .int (xs (i + 2))]) (rest := []) C hP hD hS hl.1 lk_L_60 (by rw [s1]; rfl) (c_xe_instance (d := 200) (by omega)) rfl rfl rfl (Nat.le_of_ble_eq_true rfl) dL_446 rfl (fun q Ha la hq hP hD hS => ?_)
  rw [s1] at hq
  cases hq
  refine lv_aload_n hx hb dL_449 rfl (lv_at hl 1 rfl) ?_
  refine law_arg (j := 1) hx hb hX hbl hS hl (by omega) hL rfl dL_450 dL_451 dL_452 dL_453 dL_454 ?_
  refine law_arg (j := 2) hx hb hX hbl hS hl (by omega) hL rfl dL_455 dL_456 dL_457 dL_458 dL_459 ?_
  refine lawM (n := 463) (F := md_instance μ (xs (i + 1)) (xs (i + 2))) (v := (fun q => q)) (g := (fun _ => μ)) (As := [.int (xs (i + 1)), .int (xs (i + 2))]) (rest := [.int a]) C hP hD hS hl.1 lk_L_63 (by rw [s2]; rfl) (c_md_instance (d := 200) (by omega)) rfl rfl rfl (Nat.le_of_ble_eq_true rfl) dL_460 rfl (fun q Hb lb hq hP hD hS => ?_)
  rw [s2] at hq
  cases hq
  refine lv_icmp_eq (tgt := 715) hx hb dL_463 (by decide) (fun _ => ?_) (fun h => absurd rfl h)
  exact kk _ _ ⟨(x, tx, tg, r, w, e0, I, Hh, pl, vs), (w1, e1, I1, H1, pl1, w2, e2, I2, H2, pl2), μ, hSR, hP, hD⟩ hS
theorem lc_entry (C : Fx E RL code 4 p s m #[Value.ref b] c) (hX : va_X b L xs s s.heap) (hbl : b < s.heap.size) (hL : L ≤ 2048) (hi : i + 3 < L) (hN : 10000 ≤ N) (hl : lv_has ls 4 [(3, .int (nI i)), (2, .ref (am 0)), (1, .ref (ad 30 0 0)), (0, .ref b)]) (hS : va_S (SA s) s.heap H locs) (hLS : LwS E ad va am s H) (kk : ∀ (H1 : Heap) (locs1 : List Loc), LwS E ad va am s H1 → va_S (SA s) s.heap H1 locs1 → W p l e room_1 s m #[Value.ref b] below meth c H1 locs1 600000 7302250 Q (F0 m 715 ls [])) : W p l e room_1 s m #[Value.ref b] below meth c H locs 600000 7302250 Q (F0 m 468 ls []) := by
  obtain ⟨⟨x, tx, tg, r, w, e0, I, Hh, pl, vs⟩, ⟨w1, e1, I1, H1, pl1, w2, e2, I2, H2, pl2⟩, μ, hSR, hP, hD⟩ := hLS
  have hSR : SR x w e0 I Hh pl vs w1 e1 I1 H1 pl1 μ := hSR
  have hx := C.1
  have hb := C.2.1
  obtain ⟨a, s1, s2⟩ := entry_call (xs (i + 1)) (xs (i + 2)) (xs (i + 3)) hSR.2.1
  refine lv_aload_n hx hb dL_468 rfl (lv_at hl 2 rfl) ?_
  refine law_arg (j := 1) hx hb hX hbl hS hl (by omega) hL rfl dL_469 dL_470 dL_471 dL_472 dL_473 ?_
  refine law_arg (j := 2) hx hb hX hbl hS hl (by omega) hL rfl dL_474 dL_475 dL_476 dL_477 dL_478 ?_
  refine law_arg (j := 3) hx hb hX hbl hS hl (by omega) hL rfl dL_479 dL_480 dL_481 dL_482 dL_483 ?_
  refine lawP (n := 487) (F := xe_entry 200 I Hh (xs (i + 1)) (xs (i + 2)) (xs (i + 3))) (v := (fun q => q)) (g := (fun _ => (x, tx, tg, r, w, e0, I, Hh, pl, vs))) (t := (x, tx, tg, r, w, e0, I, Hh, pl, vs)) (k := (w1, e1, I1, H1, pl1, w2, e2, I2, H2, pl2)) (As := [.int (xs (i + 1)), .int (xs (i + 2)), .int (xs (i + 3))]) (rest := []) C hP hD hS hl.1 lk_L_64 (by rw [s1]; rfl) (c_xe_entry (d := 200) (by omega)) rfl rfl rfl (Nat.le_of_ble_eq_true rfl) dL_484 rfl (fun q Ha la hq hP hD hS => ?_)
  rw [s1] at hq
  cases hq
  refine lv_aload_n hx hb dL_487 rfl (lv_at hl 1 rfl) ?_
  refine law_arg (j := 1) hx hb hX hbl hS hl (by omega) hL rfl dL_488 dL_489 dL_490 dL_491 dL_492 ?_
  refine law_arg (j := 2) hx hb hX hbl hS hl (by omega) hL rfl dL_493 dL_494 dL_495 dL_496 dL_497 ?_
  refine law_arg (j := 3) hx hb hX hbl hS hl (by omega) hL rfl dL_498 dL_499 dL_500 dL_501 dL_502 ?_
  refine lawM (n := 506) (F := md_entry μ (xs (i + 1)) (xs (i + 2)) (xs (i + 3))) (v := (fun q => q)) (g := (fun _ => μ)) (As := [.int (xs (i + 1)), .int (xs (i + 2)), .int (xs (i + 3))]) (rest := [.int a]) C hP hD hS hl.1 lk_L_67 (by rw [s2]; rfl) (c_md_entry (d := 200) (by omega)) rfl rfl rfl (Nat.le_of_ble_eq_true rfl) dL_503 rfl (fun q Hb lb hq hP hD hS => ?_)
  rw [s2] at hq
  cases hq
  refine lv_icmp_eq (tgt := 715) hx hb dL_506 (by decide) (fun _ => ?_) (fun h => absurd rfl h)
  exact kk _ _ ⟨(x, tx, tg, r, w, e0, I, Hh, pl, vs), (w1, e1, I1, H1, pl1, w2, e2, I2, H2, pl2), μ, hSR, hP, hD⟩ hS
theorem lc_running (C : Fx E RL code 4 p s m #[Value.ref b] c) (hX : va_X b L xs s s.heap) (hbl : b < s.heap.size) (hL : L ≤ 2048) (hi : i + 3 < L) (hN : 10000 ≤ N) (hl : lv_has ls 4 [(3, .int (nI i)), (2, .ref (am 0)), (1, .ref (ad 30 0 0)), (0, .ref b)]) (hS : va_S (SA s) s.heap H locs) (hLS : LwS E ad va am s H) (kk : ∀ (H1 : Heap) (locs1 : List Loc), LwS E ad va am s H1 → va_S (SA s) s.heap H1 locs1 → W p l e room_1 s m #[Value.ref b] below meth c H1 locs1 600000 7302250 Q (F0 m 715 ls [])) : W p l e room_1 s m #[Value.ref b] below meth c H locs 600000 7302250 Q (F0 m 511 ls []) := by
  obtain ⟨⟨x, tx, tg, r, w, e0, I, Hh, pl, vs⟩, ⟨w1, e1, I1, H1, pl1, w2, e2, I2, H2, pl2⟩, μ, hSR, hP, hD⟩ := hLS
  have hSR : SR x w e0 I Hh pl vs w1 e1 I1 H1 pl1 μ := hSR
  have hx := C.1
  have hb := C.2.1
  obtain ⟨a, s1, s2⟩ := running_call (N := N) (by omega) (xs (i + 1)) (xs (i + 2)) hSR.2.1
  refine lv_aload_n hx hb dL_511 rfl (lv_at hl 2 rfl) ?_
  refine law_arg (j := 1) hx hb hX hbl hS hl (by omega) hL rfl dL_512 dL_513 dL_514 dL_515 dL_516 ?_
  refine law_arg (j := 2) hx hb hX hbl hS hl (by omega) hL rfl dL_517 dL_518 dL_519 dL_520 dL_521 ?_
  refine lawP (n := 525) (F := xe_running N pl vs I (xs (i + 1)) (xs (i + 2))) (v := (fun q => q)) (g := (fun _ => (x, tx, tg, r, w, e0, I, Hh, pl, vs))) (t := (x, tx, tg, r, w, e0, I, Hh, pl, vs)) (k := (w1, e1, I1, H1, pl1, w2, e2, I2, H2, pl2)) (As := [.int (xs (i + 1)), .int (xs (i + 2))]) (rest := []) C hP hD hS hl.1 lk_L_68 (by rw [s1]; rfl) (c_xe_running (N := N) (d := 200) (by omega)) rfl rfl rfl (Nat.le_of_ble_eq_true rfl) dL_522 rfl (fun q Ha la hq hP hD hS => ?_)
  rw [s1] at hq
  cases hq
  refine lv_aload_n hx hb dL_525 rfl (lv_at hl 1 rfl) ?_
  refine law_arg (j := 1) hx hb hX hbl hS hl (by omega) hL rfl dL_526 dL_527 dL_528 dL_529 dL_530 ?_
  refine law_arg (j := 2) hx hb hX hbl hS hl (by omega) hL rfl dL_531 dL_532 dL_533 dL_534 dL_535 ?_
  refine lawM (n := 539) (F := md_running N μ (xs (i + 1)) (xs (i + 2))) (v := (fun q => q)) (g := (fun _ => μ)) (As := [.int (xs (i + 1)), .int (xs (i + 2))]) (rest := [.int a]) C hP hD hS hl.1 lk_L_71 (by rw [s2]; rfl) (c_md_running (N := N) (d := 200) (by omega)) rfl rfl rfl (Nat.le_of_ble_eq_true rfl) dL_536 rfl (fun q Hb lb hq hP hD hS => ?_)
  rw [s2] at hq
  cases hq
  refine lv_icmp_eq (tgt := 715) hx hb dL_539 (by decide) (fun _ => ?_) (fun h => absurd rfl h)
  exact kk _ _ ⟨(x, tx, tg, r, w, e0, I, Hh, pl, vs), (w1, e1, I1, H1, pl1, w2, e2, I2, H2, pl2), μ, hSR, hP, hD⟩ hS
theorem lc_due (C : Fx E RL code 4 p s m #[Value.ref b] c) (hX : va_X b L xs s s.heap) (hbl : b < s.heap.size) (hL : L ≤ 2048) (hi : i + 3 < L) (hN : 10000 ≤ N) (hl : lv_has ls 4 [(3, .int (nI i)), (2, .ref (am 0)), (1, .ref (ad 30 0 0)), (0, .ref b)]) (hS : va_S (SA s) s.heap H locs) (hLS : LwS E ad va am s H) (kk : ∀ (H1 : Heap) (locs1 : List Loc), LwS E ad va am s H1 → va_S (SA s) s.heap H1 locs1 → W p l e room_1 s m #[Value.ref b] below meth c H1 locs1 600000 7302250 Q (F0 m 715 ls [])) : W p l e room_1 s m #[Value.ref b] below meth c H locs 600000 7302250 Q (F0 m 544 ls []) := by
  obtain ⟨⟨x, tx, tg, r, w, e0, I, Hh, pl, vs⟩, ⟨w1, e1, I1, H1, pl1, w2, e2, I2, H2, pl2⟩, μ, hSR, hP, hD⟩ := hLS
  have hSR : SR x w e0 I Hh pl vs w1 e1 I1 H1 pl1 μ := hSR
  have hx := C.1
  have hb := C.2.1
  obtain ⟨a, s1, s2⟩ := due_call (N := N) (by omega) (xs (i + 1)) hSR.2.1
  refine lv_aload_n hx hb dL_544 rfl (lv_at hl 2 rfl) ?_
  refine law_arg (j := 1) hx hb hX hbl hS hl (by omega) hL rfl dL_545 dL_546 dL_547 dL_548 dL_549 ?_
  refine lawP (n := 553) (F := xe_due N pl I (xs (i + 1))) (v := (fun q => q)) (g := (fun _ => (x, tx, tg, r, w, e0, I, Hh, pl, vs))) (t := (x, tx, tg, r, w, e0, I, Hh, pl, vs)) (k := (w1, e1, I1, H1, pl1, w2, e2, I2, H2, pl2)) (As := [.int (xs (i + 1))]) (rest := []) C hP hD hS hl.1 lk_L_72 (by rw [s1]; rfl) (c_xe_due (N := N) (d := 200) (by omega)) rfl rfl rfl (Nat.le_of_ble_eq_true rfl) dL_550 rfl (fun q Ha la hq hP hD hS => ?_)
  rw [s1] at hq
  cases hq
  refine lv_aload_n hx hb dL_553 rfl (lv_at hl 1 rfl) ?_
  refine law_arg (j := 1) hx hb hX hbl hS hl (by omega) hL rfl dL_554 dL_555 dL_556 dL_557 dL_558 ?_
  refine lawM (n := 562) (F := md_due N μ (xs (i + 1))) (v := (fun q => q)) (g := (fun _ => μ)) (As := [.int (xs (i + 1))]) (rest := [.int a]) C hP hD hS hl.1 lk_L_75 (by rw [s2]; rfl) (c_md_due (N := N) (d := 200) (by omega)) rfl rfl rfl (Nat.le_of_ble_eq_true rfl) dL_559 rfl (fun q Hb lb hq hP hD hS => ?_)
  rw [s2] at hq
  cases hq
  refine lv_icmp_eq (tgt := 715) hx hb dL_562 (by decide) (fun _ => ?_) (fun h => absurd rfl h)
  exact kk _ _ ⟨(x, tx, tg, r, w, e0, I, Hh, pl, vs), (w1, e1, I1, H1, pl1, w2, e2, I2, H2, pl2), μ, hSR, hP, hD⟩ hS
theorem lc_ahead (C : Fx E RL code 4 p s m #[Value.ref b] c) (hX : va_X b L xs s s.heap) (hbl : b < s.heap.size) (hL : L ≤ 2048) (hi : i + 3 < L) (hN : 10000 ≤ N) (hl : lv_has ls 4 [(3, .int (nI i)), (2, .ref (am 0)), (1, .ref (ad 30 0 0)), (0, .ref b)]) (hS : va_S (SA s) s.heap H locs) (hLS : LwS E ad va am s H) (kk : ∀ (H1 : Heap) (locs1 : List Loc), LwS E ad va am s H1 → va_S (SA s) s.heap H1 locs1 → W p l e room_1 s m #[Value.ref b] below meth c H1 locs1 600000 7302250 Q (F0 m 715 ls [])) : W p l e room_1 s m #[Value.ref b] below meth c H locs 600000 7302250 Q (F0 m 567 ls []) := by
  obtain ⟨⟨x, tx, tg, r, w, e0, I, Hh, pl, vs⟩, ⟨w1, e1, I1, H1, pl1, w2, e2, I2, H2, pl2⟩, μ, hSR, hP, hD⟩ := hLS
  have hSR : SR x w e0 I Hh pl vs w1 e1 I1 H1 pl1 μ := hSR
  have hx := C.1
  have hb := C.2.1
  obtain ⟨a, w2', e2', I2', H2', pl2', μ', s1, s2, s3⟩ := ahead_call (N := N) (D := 16) (w2 := w2) (e2 := e2) (I2 := I2) (H2 := H2) (pl2 := pl2) hN (by omega) (xs (i + 1)) (xs (i + 2)) hSR
  refine lv_aload_n hx hb dL_567 rfl (lv_at hl 2 rfl) ?_
  refine law_arg (j := 1) hx hb hX hbl hS hl (by omega) hL rfl dL_568 dL_569 dL_570 dL_571 dL_572 ?_
  refine law_arg (j := 2) hx hb hX hbl hS hl (by omega) hL rfl dL_573 dL_574 dL_575 dL_576 dL_577 ?_
  refine lawX (n := 581) (F := xe_ahead N 16 200 (xs (i + 1)) (xs (i + 2)) w e0 I Hh pl vs w2 e2 I2 H2 pl2) (v := (fun q => q.1)) (g := (fun q => ((x, tx, tg, r, w, e0, I, Hh, pl, vs), (w1, e1, I1, H1, pl1, q.2.1, q.2.2.1, q.2.2.2.1, q.2.2.2.2.1, q.2.2.2.2.2)))) (t := (x, tx, tg, r, w, e0, I, Hh, pl, vs)) (k := (w1, e1, I1, H1, pl1, w2, e2, I2, H2, pl2)) (As := [.int (xs (i + 1)), .int (xs (i + 2))]) (rest := []) C hP hD hS hl.1 lk_L_76 (by rw [s1]; rfl) (c_xe_ahead (N := N) (D := 16) (d := 200) (by omega)) rfl rfl rfl (Nat.le_of_ble_eq_true rfl) dL_578 rfl (fun q Ha la hq hP hD hS => ?_)
  rw [s1] at hq
  cases hq
  refine lv_aload_n hx hb dL_581 rfl (lv_at hl 1 rfl) ?_
  refine law_arg (j := 1) hx hb hX hbl hS hl (by omega) hL rfl dL_582 dL_583 dL_584 dL_585 dL_586 ?_
  refine law_arg (j := 2) hx hb hX hbl hS hl (by omega) hL rfl dL_587 dL_588 dL_589 dL_590 dL_591 ?_
  refine lawM (n := 595) (F := md_ahead N 16 (xs (i + 1)) (xs (i + 2)) μ) (v := (fun q => q.1)) (g := (fun q => q.2)) (As := [.int (xs (i + 1)), .int (xs (i + 2))]) (rest := [.int a]) C hP hD hS hl.1 lk_L_79 (by rw [s2]; rfl) (c_md_ahead (N := N) (D := 16) (d := 200) (by omega)) rfl rfl rfl (Nat.le_of_ble_eq_true rfl) dL_592 rfl (fun q Hb lb hq hP hD hS => ?_)
  rw [s2] at hq
  cases hq
  refine lv_icmp_eq (tgt := 715) hx hb dL_595 (by decide) (fun _ => ?_) (fun h => absurd rfl h)
  exact kk _ _ ⟨(x, tx, tg, r, w, e0, I, Hh, pl, vs), (w1, e1, I1, H1, pl1, w2', e2', I2', H2', pl2'), μ', s3, hP, hD⟩ hS
theorem lc_replayed (C : Fx E RL code 4 p s m #[Value.ref b] c) (hX : va_X b L xs s s.heap) (hbl : b < s.heap.size) (hL : L ≤ 2048) (hi : i + 3 < L) (hN : 10000 ≤ N) (hl : lv_has ls 4 [(3, .int (nI i)), (2, .ref (am 0)), (1, .ref (ad 30 0 0)), (0, .ref b)]) (hS : va_S (SA s) s.heap H locs) (hLS : LwS E ad va am s H) (kk : ∀ (H1 : Heap) (locs1 : List Loc), LwS E ad va am s H1 → va_S (SA s) s.heap H1 locs1 → W p l e room_1 s m #[Value.ref b] below meth c H1 locs1 600000 7302250 Q (F0 m 715 ls [])) : W p l e room_1 s m #[Value.ref b] below meth c H locs 600000 7302250 Q (F0 m 600 ls []) := by
  obtain ⟨⟨x, tx, tg, r, w, e0, I, Hh, pl, vs⟩, ⟨w1, e1, I1, H1, pl1, w2, e2, I2, H2, pl2⟩, μ, hSR, hP, hD⟩ := hLS
  have hSR : SR x w e0 I Hh pl vs w1 e1 I1 H1 pl1 μ := hSR
  have hx := C.1
  have hb := C.2.1
  obtain ⟨a, s1, s2⟩ := replayed_call (N := N) (by omega) (xs (i + 1)) (xs (i + 2)) hSR.2.1
  refine lv_aload_n hx hb dL_600 rfl (lv_at hl 2 rfl) ?_
  refine law_arg (j := 1) hx hb hX hbl hS hl (by omega) hL rfl dL_601 dL_602 dL_603 dL_604 dL_605 ?_
  refine law_arg (j := 2) hx hb hX hbl hS hl (by omega) hL rfl dL_606 dL_607 dL_608 dL_609 dL_610 ?_
  refine lawP (n := 614) (F := xe_replayed N 200 I Hh (xs (i + 1)) (xs (i + 2))) (v := (fun q => q)) (g := (fun _ => (x, tx, tg, r, w, e0, I, Hh, pl, vs))) (t := (x, tx, tg, r, w, e0, I, Hh, pl, vs)) (k := (w1, e1, I1, H1, pl1, w2, e2, I2, H2, pl2)) (As := [.int (xs (i + 1)), .int (xs (i + 2))]) (rest := []) C hP hD hS hl.1 lk_L_80 (by rw [s1]; rfl) (c_xe_replayed (N := N) (d := 200) (by omega)) rfl rfl rfl (Nat.le_of_ble_eq_true rfl) dL_611 rfl (fun q Ha la hq hP hD hS => ?_)
  rw [s1] at hq
  cases hq
  refine lv_aload_n hx hb dL_614 rfl (lv_at hl 1 rfl) ?_
  refine law_arg (j := 1) hx hb hX hbl hS hl (by omega) hL rfl dL_615 dL_616 dL_617 dL_618 dL_619 ?_
  refine law_arg (j := 2) hx hb hX hbl hS hl (by omega) hL rfl dL_620 dL_621 dL_622 dL_623 dL_624 ?_
  refine lawM (n := 628) (F := md_replayed N μ (xs (i + 1)) (xs (i + 2))) (v := (fun q => q)) (g := (fun _ => μ)) (As := [.int (xs (i + 1)), .int (xs (i + 2))]) (rest := [.int a]) C hP hD hS hl.1 lk_L_83 (by rw [s2]; rfl) (c_md_replayed (N := N) (d := 200) (by omega)) rfl rfl rfl (Nat.le_of_ble_eq_true rfl) dL_625 rfl (fun q Hb lb hq hP hD hS => ?_)
  rw [s2] at hq
  cases hq
  refine lv_icmp_eq (tgt := 715) hx hb dL_628 (by decide) (fun _ => ?_) (fun h => absurd rfl h)
  exact kk _ _ ⟨(x, tx, tg, r, w, e0, I, Hh, pl, vs), (w1, e1, I1, H1, pl1, w2, e2, I2, H2, pl2), μ, hSR, hP, hD⟩ hS
theorem lc_statistic (C : Fx E RL code 4 p s m #[Value.ref b] c) (hX : va_X b L xs s s.heap) (hbl : b < s.heap.size) (hL : L ≤ 2048) (hi : i + 3 < L) (hN : 10000 ≤ N) (hl : lv_has ls 4 [(3, .int (nI i)), (2, .ref (am 0)), (1, .ref (ad 30 0 0)), (0, .ref b)]) (hS : va_S (SA s) s.heap H locs) (hLS : LwS E ad va am s H) (kk : ∀ (H1 : Heap) (locs1 : List Loc), LwS E ad va am s H1 → va_S (SA s) s.heap H1 locs1 → W p l e room_1 s m #[Value.ref b] below meth c H1 locs1 600000 7302250 Q (F0 m 715 ls [])) : W p l e room_1 s m #[Value.ref b] below meth c H locs 600000 7302250 Q (F0 m 633 ls []) := by
  obtain ⟨⟨x, tx, tg, r, w, e0, I, Hh, pl, vs⟩, ⟨w1, e1, I1, H1, pl1, w2, e2, I2, H2, pl2⟩, μ, hSR, hP, hD⟩ := hLS
  have hSR : SR x w e0 I Hh pl vs w1 e1 I1 H1 pl1 μ := hSR
  have hx := C.1
  have hb := C.2.1
  obtain ⟨a, s1, s2⟩ := statistic_call (N := N) (by omega) (xs (i + 1)) (xs (i + 2)) hSR.2.1
  refine lv_aload_n hx hb dL_633 rfl (lv_at hl 2 rfl) ?_
  refine law_arg (j := 1) hx hb hX hbl hS hl (by omega) hL rfl dL_634 dL_635 dL_636 dL_637 dL_638 ?_
  refine law_arg (j := 2) hx hb hX hbl hS hl (by omega) hL rfl dL_639 dL_640 dL_641 dL_642 dL_643 ?_
  refine lawP (n := 647) (F := xe_statistic N pl vs I (xs (i + 1)) (xs (i + 2))) (v := (fun q => q)) (g := (fun _ => (x, tx, tg, r, w, e0, I, Hh, pl, vs))) (t := (x, tx, tg, r, w, e0, I, Hh, pl, vs)) (k := (w1, e1, I1, H1, pl1, w2, e2, I2, H2, pl2)) (As := [.int (xs (i + 1)), .int (xs (i + 2))]) (rest := []) C hP hD hS hl.1 lk_L_84 (by rw [s1]; rfl) (c_xe_statistic (N := N) (d := 200) (by omega)) rfl rfl rfl (Nat.le_of_ble_eq_true rfl) dL_644 rfl (fun q Ha la hq hP hD hS => ?_)
  rw [s1] at hq
  cases hq
  refine lv_aload_n hx hb dL_647 rfl (lv_at hl 1 rfl) ?_
  refine law_arg (j := 1) hx hb hX hbl hS hl (by omega) hL rfl dL_648 dL_649 dL_650 dL_651 dL_652 ?_
  refine law_arg (j := 2) hx hb hX hbl hS hl (by omega) hL rfl dL_653 dL_654 dL_655 dL_656 dL_657 ?_
  refine lawM (n := 661) (F := md_statistic N μ (xs (i + 1)) (xs (i + 2))) (v := (fun q => q)) (g := (fun _ => μ)) (As := [.int (xs (i + 1)), .int (xs (i + 2))]) (rest := [.int a]) C hP hD hS hl.1 lk_L_87 (by rw [s2]; rfl) (c_md_statistic (N := N) (d := 200) (by omega)) rfl rfl rfl (Nat.le_of_ble_eq_true rfl) dL_658 rfl (fun q Hb lb hq hP hD hS => ?_)
  rw [s2] at hq
  cases hq
  refine lv_icmp_eq (tgt := 715) hx hb dL_661 (by decide) (fun _ => ?_) (fun h => absurd rfl h)
  exact kk _ _ ⟨(x, tx, tg, r, w, e0, I, Hh, pl, vs), (w1, e1, I1, H1, pl1, w2, e2, I2, H2, pl2), μ, hSR, hP, hD⟩ hS
theorem lc_image (C : Fx E RL code 4 p s m #[Value.ref b] c) (hX : va_X b L xs s s.heap) (hbl : b < s.heap.size) (hL : L ≤ 2048) (hi : i + 3 < L) (hN : 10000 ≤ N) (hl : lv_has ls 4 [(3, .int (nI i)), (2, .ref (am 0)), (1, .ref (ad 30 0 0)), (0, .ref b)]) (hS : va_S (SA s) s.heap H locs) (hLS : LwS E ad va am s H) (kk : ∀ (H1 : Heap) (locs1 : List Loc), LwS E ad va am s H1 → va_S (SA s) s.heap H1 locs1 → W p l e room_1 s m #[Value.ref b] below meth c H1 locs1 600000 7302250 Q (F0 m 715 ls [])) : W p l e room_1 s m #[Value.ref b] below meth c H locs 600000 7302250 Q (F0 m 666 ls []) := by
  obtain ⟨⟨x, tx, tg, r, w, e0, I, Hh, pl, vs⟩, ⟨w1, e1, I1, H1, pl1, w2, e2, I2, H2, pl2⟩, μ, hSR, hP, hD⟩ := hLS
  have hSR : SR x w e0 I Hh pl vs w1 e1 I1 H1 pl1 μ := hSR
  have hx := C.1
  have hb := C.2.1
  obtain ⟨a, x', w1', e1', I1', H1', pl1', μ', s1, s2, s3⟩ := image_call (N := N) hN hSR
  refine lv_aload_n hx hb dL_666 rfl (lv_at hl 2 rfl) ?_
  refine lawX (n := 670) (F := xe_image N 200 x w e0 I Hh pl vs w1 e1 I1 H1 pl1) (v := (fun q => q.1)) (g := (fun q => ((q.2.1, tx, tg, r, w, e0, I, Hh, pl, vs), (q.2.2.1, q.2.2.2.1, q.2.2.2.2.1, q.2.2.2.2.2.1, q.2.2.2.2.2.2, w2, e2, I2, H2, pl2)))) (t := (x, tx, tg, r, w, e0, I, Hh, pl, vs)) (k := (w1, e1, I1, H1, pl1, w2, e2, I2, H2, pl2)) (As := []) (rest := []) C hP hD hS hl.1 lk_L_88 (by rw [s1]; rfl) (c_xe_image (N := N) (d := 200) (by omega)) rfl rfl rfl (Nat.le_of_ble_eq_true rfl) dL_667 rfl (fun q Ha la hq hP hD hS => ?_)
  rw [s1] at hq
  cases hq
  refine lv_aload_n hx hb dL_670 rfl (lv_at hl 1 rfl) ?_
  refine lawM (n := 674) (F := md_image N μ) (v := (fun q => q.1)) (g := (fun q => q.2)) (As := []) (rest := [.int a]) C hP hD hS hl.1 lk_L_92 (by rw [s2]; rfl) (c_md_image (N := N) (d := 200) (by omega)) rfl rfl rfl (Nat.le_of_ble_eq_true rfl) dL_671 rfl (fun q Hb lb hq hP hD hS => ?_)
  rw [s2] at hq
  cases hq
  refine lv_icmp_eq (tgt := 715) hx hb dL_674 (by decide) (fun _ => ?_) (fun h => absurd rfl h)
  exact kk _ _ ⟨(x', tx, tg, r, w, e0, I, Hh, pl, vs), (w1', e1', I1', H1', pl1', w2, e2, I2, H2, pl2), μ', s3, hP, hD⟩ hS
theorem lc_undo (C : Fx E RL code 4 p s m #[Value.ref b] c) (hX : va_X b L xs s s.heap) (hbl : b < s.heap.size) (hL : L ≤ 2048) (hi : i + 3 < L) (hN : 10000 ≤ N) (hl : lv_has ls 4 [(3, .int (nI i)), (2, .ref (am 0)), (1, .ref (ad 30 0 0)), (0, .ref b)]) (hS : va_S (SA s) s.heap H locs) (hLS : LwS E ad va am s H) (kk : ∀ (H1 : Heap) (locs1 : List Loc), LwS E ad va am s H1 → va_S (SA s) s.heap H1 locs1 → W p l e room_1 s m #[Value.ref b] below meth c H1 locs1 600000 7302250 Q (F0 m 715 ls [])) : W p l e room_1 s m #[Value.ref b] below meth c H locs 600000 7302250 Q (F0 m 679 ls []) := by
  obtain ⟨⟨x, tx, tg, r, w, e0, I, Hh, pl, vs⟩, ⟨w1, e1, I1, H1, pl1, w2, e2, I2, H2, pl2⟩, μ, hSR, hP, hD⟩ := hLS
  have hSR : SR x w e0 I Hh pl vs w1 e1 I1 H1 pl1 μ := hSR
  have hx := C.1
  have hb := C.2.1
  obtain ⟨a, w', e0', I', Hh', pl', μ', s1, s2, s3⟩ := undo_call (N := N) hN hSR
  refine lv_aload_n hx hb dL_679 rfl (lv_at hl 2 rfl) ?_
  refine lawX (n := 683) (F := xe_undo N 200 x w e0 I Hh pl vs w1 e1 I1 H1 pl1) (v := (fun q => q.1)) (g := (fun q => ((x, tx, tg, r, q.2.1, q.2.2.1, q.2.2.2.1, q.2.2.2.2.1, q.2.2.2.2.2, vs), (w1, e1, I1, H1, pl1, w2, e2, I2, H2, pl2)))) (t := (x, tx, tg, r, w, e0, I, Hh, pl, vs)) (k := (w1, e1, I1, H1, pl1, w2, e2, I2, H2, pl2)) (As := []) (rest := []) C hP hD hS hl.1 lk_L_93 (by rw [s1]; rfl) (c_xe_undo (N := N) (d := 200) (by omega)) rfl rfl rfl (Nat.le_of_ble_eq_true rfl) dL_680 rfl (fun q Ha la hq hP hD hS => ?_)
  rw [s1] at hq
  cases hq
  refine lv_aload_n hx hb dL_683 rfl (lv_at hl 1 rfl) ?_
  refine lawM (n := 687) (F := md_undo N μ) (v := (fun q => q.1)) (g := (fun q => q.2)) (As := []) (rest := [.int a]) C hP hD hS hl.1 lk_L_96 (by rw [s2]; rfl) (c_md_undo (N := N) (d := 200) (by omega)) rfl rfl rfl (Nat.le_of_ble_eq_true rfl) dL_684 rfl (fun q Hb lb hq hP hD hS => ?_)
  rw [s2] at hq
  cases hq
  refine lv_icmp_eq (tgt := 715) hx hb dL_687 (by decide) (fun _ => ?_) (fun h => absurd rfl h)
  exact kk _ _ ⟨(x, tx, tg, r, w', e0', I', Hh', pl', vs), (w1, e1, I1, H1, pl1, w2, e2, I2, H2, pl2), μ', s3, hP, hD⟩ hS
theorem lc_count (C : Fx E RL code 4 p s m #[Value.ref b] c) (hX : va_X b L xs s s.heap) (hbl : b < s.heap.size) (hL : L ≤ 2048) (hi : i + 3 < L) (hN : 10000 ≤ N) (hl : lv_has ls 4 [(3, .int (nI i)), (2, .ref (am 0)), (1, .ref (ad 30 0 0)), (0, .ref b)]) (hS : va_S (SA s) s.heap H locs) (hLS : LwS E ad va am s H) (kk : ∀ (H1 : Heap) (locs1 : List Loc), LwS E ad va am s H1 → va_S (SA s) s.heap H1 locs1 → W p l e room_1 s m #[Value.ref b] below meth c H1 locs1 600000 7302250 Q (F0 m 715 ls [])) : W p l e room_1 s m #[Value.ref b] below meth c H locs 600000 7302250 Q (F0 m 692 ls []) := by
  obtain ⟨⟨x, tx, tg, r, w, e0, I, Hh, pl, vs⟩, ⟨w1, e1, I1, H1, pl1, w2, e2, I2, H2, pl2⟩, μ, hSR, hP, hD⟩ := hLS
  have hSR : SR x w e0 I Hh pl vs w1 e1 I1 H1 pl1 μ := hSR
  have hx := C.1
  have hb := C.2.1
  obtain ⟨a, s1, s2⟩ := count_call (N := N) (by omega) (xs (i + 1)) hSR.1 hSR.2.1
  refine lv_aload_n hx hb dL_692 rfl (lv_at hl 2 rfl) ?_
  refine law_arg (j := 1) hx hb hX hbl hS hl (by omega) hL rfl dL_693 dL_694 dL_695 dL_696 dL_697 ?_
  refine lawP (n := 701) (F := xe_count N pl vs I w x e0 (xs (i + 1))) (v := (fun q => q)) (g := (fun _ => (x, tx, tg, r, w, e0, I, Hh, pl, vs))) (t := (x, tx, tg, r, w, e0, I, Hh, pl, vs)) (k := (w1, e1, I1, H1, pl1, w2, e2, I2, H2, pl2)) (As := [.int (xs (i + 1))]) (rest := []) C hP hD hS hl.1 lk_L_97 (by rw [s1]; rfl) (c_xe_count (N := N) (d := 200) (by omega)) rfl rfl rfl (Nat.le_of_ble_eq_true rfl) dL_698 rfl (fun q Ha la hq hP hD hS => ?_)
  rw [s1] at hq
  cases hq
  refine lv_aload_n hx hb dL_701 rfl (lv_at hl 1 rfl) ?_
  refine law_arg (j := 1) hx hb hX hbl hS hl (by omega) hL rfl dL_702 dL_703 dL_704 dL_705 dL_706 ?_
  refine lawM (n := 710) (F := md_count N μ (xs (i + 1))) (v := (fun q => q)) (g := (fun _ => μ)) (As := [.int (xs (i + 1))]) (rest := [.int a]) C hP hD hS hl.1 lk_L_100 (by rw [s2]; rfl) (c_md_count (N := N) (d := 200) (by omega)) rfl rfl rfl (Nat.le_of_ble_eq_true rfl) dL_707 rfl (fun q Hb lb hq hP hD hS => ?_)
  rw [s2] at hq
  cases hq
  refine lv_icmp_eq (tgt := 715) hx hb dL_710 (by decide) (fun _ => ?_) (fun h => absurd rfl h)
  exact kk _ _ ⟨(x, tx, tg, r, w, e0, I, Hh, pl, vs), (w1, e1, I1, H1, pl1, w2, e2, I2, H2, pl2), μ, hSR, hP, hD⟩ hS
end LC1
