/-! the law: words -/
theorem kl_123 : zW (.classLink "GlassPalaceLaw" 7 "GlassPalace") := ⟨List.mem_of_getElem? (i := 123) (by decide +kernel), rfl⟩
theorem kl_124 : zW (.instantiable "GlassPalace" 15) := ⟨List.mem_of_getElem? (i := 124) (by decide +kernel), rfl⟩
theorem kl_125 : zW (.methodLink "GlassPalaceLaw" 9 yX11_init) := ⟨List.mem_of_getElem? (i := 125) (by decide +kernel), rfl⟩
theorem kl_408 : zW (.methodLink "GlassPalaceLaw" 13 yX11_pass) := ⟨List.mem_of_getElem? (i := 408) (by decide +kernel), rfl⟩
theorem kl_409 : zW (.instanceMethod yX11_pass) := ⟨List.mem_of_getElem? (i := 409) (by decide +kernel), rfl⟩
theorem kl_410 : zW (.selects "GlassPalace" yX11_pass yX11_pass) := ⟨List.mem_of_getElem? (i := 410) (by decide +kernel), rfl⟩
theorem kl_411 : zW (.code yX11_pass cX11_pass 2 (some .int)) := ⟨List.mem_of_getElem? (i := 411) (by decide +kernel), rfl⟩
theorem kl_412 : zW (.methodLink "GlassPalaceLaw" 18 yX11_bay) := ⟨List.mem_of_getElem? (i := 412) (by decide +kernel), rfl⟩
theorem kl_413 : zW (.instanceMethod yX11_bay) := ⟨List.mem_of_getElem? (i := 413) (by decide +kernel), rfl⟩
theorem kl_414 : zW (.selects "GlassPalace" yX11_bay yX11_bay) := ⟨List.mem_of_getElem? (i := 414) (by decide +kernel), rfl⟩
theorem kl_415 : zW (.code yX11_bay cX11_bay 6 (some .int)) := ⟨List.mem_of_getElem? (i := 415) (by decide +kernel), rfl⟩
theorem kl_435 : zW (.methodLink "GlassPalaceLaw" 23 yX11_foundry) := ⟨List.mem_of_getElem? (i := 435) (by decide +kernel), rfl⟩
theorem kl_436 : zW (.instanceMethod yX11_foundry) := ⟨List.mem_of_getElem? (i := 436) (by decide +kernel), rfl⟩
theorem kl_437 : zW (.selects "GlassPalace" yX11_foundry yX11_foundry) := ⟨List.mem_of_getElem? (i := 437) (by decide +kernel), rfl⟩
theorem kl_438 : zW (.code yX11_foundry cX11_foundry 4 (some .int)) := ⟨List.mem_of_getElem? (i := 438) (by decide +kernel), rfl⟩
theorem kl_442 : zW (.methodLink "GlassPalaceLaw" 27 yX11_order) := ⟨List.mem_of_getElem? (i := 442) (by decide +kernel), rfl⟩
theorem kl_443 : zW (.instanceMethod yX11_order) := ⟨List.mem_of_getElem? (i := 443) (by decide +kernel), rfl⟩
theorem kl_444 : zW (.selects "GlassPalace" yX11_order yX11_order) := ⟨List.mem_of_getElem? (i := 444) (by decide +kernel), rfl⟩
theorem kl_445 : zW (.code yX11_order cX11_order 5 (some .int)) := ⟨List.mem_of_getElem? (i := 445) (by decide +kernel), rfl⟩
theorem kl_508 : zW (.methodLink "GlassPalaceLaw" 32 yX11_come) := ⟨List.mem_of_getElem? (i := 508) (by decide +kernel), rfl⟩
theorem kl_509 : zW (.instanceMethod yX11_come) := ⟨List.mem_of_getElem? (i := 509) (by decide +kernel), rfl⟩
theorem kl_510 : zW (.selects "GlassPalace" yX11_come yX11_come) := ⟨List.mem_of_getElem? (i := 510) (by decide +kernel), rfl⟩
theorem kl_511 : zW (.code yX11_come cX11_come 4 (some .int)) := ⟨List.mem_of_getElem? (i := 511) (by decide +kernel), rfl⟩
theorem kl_520 : zW (.methodLink "GlassPalaceLaw" 37 yX11_of) := ⟨List.mem_of_getElem? (i := 520) (by decide +kernel), rfl⟩
theorem kl_521 : zW (.instanceMethod yX11_of) := ⟨List.mem_of_getElem? (i := 521) (by decide +kernel), rfl⟩
theorem kl_522 : zW (.selects "GlassPalace" yX11_of yX11_of) := ⟨List.mem_of_getElem? (i := 522) (by decide +kernel), rfl⟩
theorem kl_523 : zW (.code yX11_of cX11_of 4 (some .int)) := ⟨List.mem_of_getElem? (i := 523) (by decide +kernel), rfl⟩
theorem kl_577 : zW (.methodLink "GlassPalaceLaw" 41 yX11_tried) := ⟨List.mem_of_getElem? (i := 577) (by decide +kernel), rfl⟩
theorem kl_578 : zW (.instanceMethod yX11_tried) := ⟨List.mem_of_getElem? (i := 578) (by decide +kernel), rfl⟩
theorem kl_579 : zW (.selects "GlassPalace" yX11_tried yX11_tried) := ⟨List.mem_of_getElem? (i := 579) (by decide +kernel), rfl⟩
theorem kl_580 : zW (.code yX11_tried cX11_tried 4 (some .int)) := ⟨List.mem_of_getElem? (i := 580) (by decide +kernel), rfl⟩
theorem kl_581 : zW (.methodLink "GlassPalaceLaw" 45 yX11_sell) := ⟨List.mem_of_getElem? (i := 581) (by decide +kernel), rfl⟩
theorem kl_582 : zW (.instanceMethod yX11_sell) := ⟨List.mem_of_getElem? (i := 582) (by decide +kernel), rfl⟩
theorem kl_583 : zW (.selects "GlassPalace" yX11_sell yX11_sell) := ⟨List.mem_of_getElem? (i := 583) (by decide +kernel), rfl⟩
theorem kl_584 : zW (.code yX11_sell cX11_sell 4 (some .int)) := ⟨List.mem_of_getElem? (i := 584) (by decide +kernel), rfl⟩
theorem kl_585 : zW (.methodLink "GlassPalaceLaw" 49 yX11_wants) := ⟨List.mem_of_getElem? (i := 585) (by decide +kernel), rfl⟩
theorem kl_586 : zW (.instanceMethod yX11_wants) := ⟨List.mem_of_getElem? (i := 586) (by decide +kernel), rfl⟩
theorem kl_587 : zW (.selects "GlassPalace" yX11_wants yX11_wants) := ⟨List.mem_of_getElem? (i := 587) (by decide +kernel), rfl⟩
theorem kl_588 : zW (.code yX11_wants cX11_wants 3 (some .int)) := ⟨List.mem_of_getElem? (i := 588) (by decide +kernel), rfl⟩
theorem kl_593 : zW (.methodLink "GlassPalaceLaw" 53 yX11_fit) := ⟨List.mem_of_getElem? (i := 593) (by decide +kernel), rfl⟩
theorem kl_594 : zW (.instanceMethod yX11_fit) := ⟨List.mem_of_getElem? (i := 594) (by decide +kernel), rfl⟩
theorem kl_595 : zW (.selects "GlassPalace" yX11_fit yX11_fit) := ⟨List.mem_of_getElem? (i := 595) (by decide +kernel), rfl⟩
theorem kl_596 : zW (.code yX11_fit cX11_fit 5 (some .int)) := ⟨List.mem_of_getElem? (i := 596) (by decide +kernel), rfl⟩
theorem kl_626 : zW (.methodLink "GlassPalaceLaw" 57 yX11_set) := ⟨List.mem_of_getElem? (i := 626) (by decide +kernel), rfl⟩
theorem kl_627 : zW (.instanceMethod yX11_set) := ⟨List.mem_of_getElem? (i := 627) (by decide +kernel), rfl⟩
theorem kl_628 : zW (.selects "GlassPalace" yX11_set yX11_set) := ⟨List.mem_of_getElem? (i := 628) (by decide +kernel), rfl⟩
theorem kl_629 : zW (.code yX11_set cX11_set 5 (some .int)) := ⟨List.mem_of_getElem? (i := 629) (by decide +kernel), rfl⟩
theorem kl_636 : zW (.methodLink "GlassPalaceLaw" 61 yX11_at) := ⟨List.mem_of_getElem? (i := 636) (by decide +kernel), rfl⟩
theorem kl_637 : zW (.instanceMethod yX11_at) := ⟨List.mem_of_getElem? (i := 637) (by decide +kernel), rfl⟩
theorem kl_638 : zW (.selects "GlassPalace" yX11_at yX11_at) := ⟨List.mem_of_getElem? (i := 638) (by decide +kernel), rfl⟩
theorem kl_639 : zW (.code yX11_at cX11_at 5 (some .int)) := ⟨List.mem_of_getElem? (i := 639) (by decide +kernel), rfl⟩
theorem kl_644 : zW (.methodLink "GlassPalaceLaw" 65 yX11_down) := ⟨List.mem_of_getElem? (i := 644) (by decide +kernel), rfl⟩
theorem kl_645 : zW (.instanceMethod yX11_down) := ⟨List.mem_of_getElem? (i := 645) (by decide +kernel), rfl⟩
theorem kl_646 : zW (.selects "GlassPalace" yX11_down yX11_down) := ⟨List.mem_of_getElem? (i := 646) (by decide +kernel), rfl⟩
theorem kl_647 : zW (.code yX11_down cX11_down 5 (some .int)) := ⟨List.mem_of_getElem? (i := 647) (by decide +kernel), rfl⟩
theorem kl_660 : zW (.methodLink "GlassPalaceLaw" 69 yX11_cut) := ⟨List.mem_of_getElem? (i := 660) (by decide +kernel), rfl⟩
theorem kl_661 : zW (.instanceMethod yX11_cut) := ⟨List.mem_of_getElem? (i := 661) (by decide +kernel), rfl⟩
theorem kl_662 : zW (.selects "GlassPalace" yX11_cut yX11_cut) := ⟨List.mem_of_getElem? (i := 662) (by decide +kernel), rfl⟩
theorem kl_663 : zW (.code yX11_cut cX11_cut 4 (some .int)) := ⟨List.mem_of_getElem? (i := 663) (by decide +kernel), rfl⟩
theorem kl_673 : zW (.methodLink "GlassPalaceLaw" 73 yX11_feed) := ⟨List.mem_of_getElem? (i := 673) (by decide +kernel), rfl⟩
theorem kl_674 : zW (.instanceMethod yX11_feed) := ⟨List.mem_of_getElem? (i := 674) (by decide +kernel), rfl⟩
theorem kl_675 : zW (.selects "GlassPalace" yX11_feed yX11_feed) := ⟨List.mem_of_getElem? (i := 675) (by decide +kernel), rfl⟩
theorem kl_676 : zW (.code yX11_feed cX11_feed 4 (some .int)) := ⟨List.mem_of_getElem? (i := 676) (by decide +kernel), rfl⟩
theorem kl_681 : zW (.methodLink "GlassPalaceLaw" 77 yX11_law) := ⟨List.mem_of_getElem? (i := 681) (by decide +kernel), rfl⟩
theorem kl_682 : zW (.instanceMethod yX11_law) := ⟨List.mem_of_getElem? (i := 682) (by decide +kernel), rfl⟩
theorem kl_683 : zW (.selects "GlassPalace" yX11_law yX11_law) := ⟨List.mem_of_getElem? (i := 683) (by decide +kernel), rfl⟩
theorem kl_684 : zW (.code yX11_law cX11_law 4 (some .int)) := ⟨List.mem_of_getElem? (i := 684) (by decide +kernel), rfl⟩
theorem kl_808 : zW (.methodLink "GlassPalaceLaw" 81 yX11_force) := ⟨List.mem_of_getElem? (i := 808) (by decide +kernel), rfl⟩
theorem kl_809 : zW (.instanceMethod yX11_force) := ⟨List.mem_of_getElem? (i := 809) (by decide +kernel), rfl⟩
theorem kl_810 : zW (.selects "GlassPalace" yX11_force yX11_force) := ⟨List.mem_of_getElem? (i := 810) (by decide +kernel), rfl⟩
theorem kl_811 : zW (.code yX11_force cX11_force 5 (some .int)) := ⟨List.mem_of_getElem? (i := 811) (by decide +kernel), rfl⟩
theorem kl_815 : zW (.methodLink "GlassPalaceLaw" 85 yX11_why) := ⟨List.mem_of_getElem? (i := 815) (by decide +kernel), rfl⟩
theorem kl_816 : zW (.instanceMethod yX11_why) := ⟨List.mem_of_getElem? (i := 816) (by decide +kernel), rfl⟩
theorem kl_817 : zW (.selects "GlassPalace" yX11_why yX11_why) := ⟨List.mem_of_getElem? (i := 817) (by decide +kernel), rfl⟩
theorem kl_818 : zW (.code yX11_why cX11_why 5 (some .int)) := ⟨List.mem_of_getElem? (i := 818) (by decide +kernel), rfl⟩
theorem kl_822 : zW (.methodLink "GlassPalaceLaw" 89 yX11_people) := ⟨List.mem_of_getElem? (i := 822) (by decide +kernel), rfl⟩
theorem kl_823 : zW (.instanceMethod yX11_people) := ⟨List.mem_of_getElem? (i := 823) (by decide +kernel), rfl⟩
theorem kl_824 : zW (.selects "GlassPalace" yX11_people yX11_people) := ⟨List.mem_of_getElem? (i := 824) (by decide +kernel), rfl⟩
theorem kl_825 : zW (.code yX11_people cX11_people 5 (some .int)) := ⟨List.mem_of_getElem? (i := 825) (by decide +kernel), rfl⟩
theorem kl_826 : zW (.methodLink "GlassPalaceLaw" 93 yX11_bears) := ⟨List.mem_of_getElem? (i := 826) (by decide +kernel), rfl⟩
theorem kl_827 : zW (.instanceMethod yX11_bears) := ⟨List.mem_of_getElem? (i := 827) (by decide +kernel), rfl⟩
theorem kl_828 : zW (.selects "GlassPalace" yX11_bears yX11_bears) := ⟨List.mem_of_getElem? (i := 828) (by decide +kernel), rfl⟩
theorem kl_829 : zW (.code yX11_bears cX11_bears 5 (some .int)) := ⟨List.mem_of_getElem? (i := 829) (by decide +kernel), rfl⟩
theorem kl_846 : zW (.methodLink "GlassPalaceLaw" 97 yX11_breaks) := ⟨List.mem_of_getElem? (i := 846) (by decide +kernel), rfl⟩
theorem kl_847 : zW (.instanceMethod yX11_breaks) := ⟨List.mem_of_getElem? (i := 847) (by decide +kernel), rfl⟩
theorem kl_848 : zW (.selects "GlassPalace" yX11_breaks yX11_breaks) := ⟨List.mem_of_getElem? (i := 848) (by decide +kernel), rfl⟩
theorem kl_849 : zW (.code yX11_breaks cX11_breaks 6 (some .int)) := ⟨List.mem_of_getElem? (i := 849) (by decide +kernel), rfl⟩
theorem kl_850 : zW (.methodLink "GlassPalaceLaw" 102 yX11_rain) := ⟨List.mem_of_getElem? (i := 850) (by decide +kernel), rfl⟩
theorem kl_851 : zW (.instanceMethod yX11_rain) := ⟨List.mem_of_getElem? (i := 851) (by decide +kernel), rfl⟩
theorem kl_852 : zW (.selects "GlassPalace" yX11_rain yX11_rain) := ⟨List.mem_of_getElem? (i := 852) (by decide +kernel), rfl⟩
theorem kl_853 : zW (.code yX11_rain cX11_rain 4 (some .int)) := ⟨List.mem_of_getElem? (i := 853) (by decide +kernel), rfl⟩
theorem kl_857 : zW (.methodLink "GlassPalaceLaw" 106 yX11_leads) := ⟨List.mem_of_getElem? (i := 857) (by decide +kernel), rfl⟩
theorem kl_858 : zW (.instanceMethod yX11_leads) := ⟨List.mem_of_getElem? (i := 858) (by decide +kernel), rfl⟩
theorem kl_859 : zW (.selects "GlassPalace" yX11_leads yX11_leads) := ⟨List.mem_of_getElem? (i := 859) (by decide +kernel), rfl⟩
theorem kl_860 : zW (.code yX11_leads cX11_leads 5 (some .int)) := ⟨List.mem_of_getElem? (i := 860) (by decide +kernel), rfl⟩
theorem kl_867 : zW (.methodLink "GlassPalaceLaw" 110 yX11_stands) := ⟨List.mem_of_getElem? (i := 867) (by decide +kernel), rfl⟩
theorem kl_868 : zW (.instanceMethod yX11_stands) := ⟨List.mem_of_getElem? (i := 868) (by decide +kernel), rfl⟩
theorem kl_869 : zW (.selects "GlassPalace" yX11_stands yX11_stands) := ⟨List.mem_of_getElem? (i := 869) (by decide +kernel), rfl⟩
theorem kl_870 : zW (.code yX11_stands cX11_stands 3 (some .int)) := ⟨List.mem_of_getElem? (i := 870) (by decide +kernel), rfl⟩
theorem kl_888 : zW (.methodLink "GlassPalaceLaw" 114 yX11_leaks) := ⟨List.mem_of_getElem? (i := 888) (by decide +kernel), rfl⟩
theorem kl_889 : zW (.instanceMethod yX11_leaks) := ⟨List.mem_of_getElem? (i := 889) (by decide +kernel), rfl⟩
theorem kl_890 : zW (.selects "GlassPalace" yX11_leaks yX11_leaks) := ⟨List.mem_of_getElem? (i := 890) (by decide +kernel), rfl⟩
theorem kl_891 : zW (.code yX11_leaks cX11_leaks 2 (some .int)) := ⟨List.mem_of_getElem? (i := 891) (by decide +kernel), rfl⟩
theorem kl_896 : zW (.methodLink "GlassPalaceLaw" 118 yX11_gang) := ⟨List.mem_of_getElem? (i := 896) (by decide +kernel), rfl⟩
theorem kl_897 : zW (.instanceMethod yX11_gang) := ⟨List.mem_of_getElem? (i := 897) (by decide +kernel), rfl⟩
theorem kl_898 : zW (.selects "GlassPalace" yX11_gang yX11_gang) := ⟨List.mem_of_getElem? (i := 898) (by decide +kernel), rfl⟩
theorem kl_899 : zW (.code yX11_gang cX11_gang 3 (some .int)) := ⟨List.mem_of_getElem? (i := 899) (by decide +kernel), rfl⟩
theorem kl_924 : zW (.methodLink "GlassPalaceLaw" 122 yX11_work) := ⟨List.mem_of_getElem? (i := 924) (by decide +kernel), rfl⟩
theorem kl_925 : zW (.instanceMethod yX11_work) := ⟨List.mem_of_getElem? (i := 925) (by decide +kernel), rfl⟩
theorem kl_926 : zW (.selects "GlassPalace" yX11_work yX11_work) := ⟨List.mem_of_getElem? (i := 926) (by decide +kernel), rfl⟩
theorem kl_927 : zW (.code yX11_work cX11_work 10 (some .int)) := ⟨List.mem_of_getElem? (i := 927) (by decide +kernel), rfl⟩
theorem kl_946 : zW (.methodLink "GlassPalaceLaw" 126 yX11_pace) := ⟨List.mem_of_getElem? (i := 946) (by decide +kernel), rfl⟩
theorem kl_947 : zW (.instanceMethod yX11_pace) := ⟨List.mem_of_getElem? (i := 947) (by decide +kernel), rfl⟩
theorem kl_948 : zW (.selects "GlassPalace" yX11_pace yX11_pace) := ⟨List.mem_of_getElem? (i := 948) (by decide +kernel), rfl⟩
theorem kl_949 : zW (.code yX11_pace cX11_pace 3 (some .int)) := ⟨List.mem_of_getElem? (i := 949) (by decide +kernel), rfl⟩
theorem kl_950 : zW (.methodLink "GlassPalaceLaw" 130 yX11_want) := ⟨List.mem_of_getElem? (i := 950) (by decide +kernel), rfl⟩
theorem kl_951 : zW (.instanceMethod yX11_want) := ⟨List.mem_of_getElem? (i := 951) (by decide +kernel), rfl⟩
theorem kl_952 : zW (.selects "GlassPalace" yX11_want yX11_want) := ⟨List.mem_of_getElem? (i := 952) (by decide +kernel), rfl⟩
theorem kl_953 : zW (.code yX11_want cX11_want 4 (some .int)) := ⟨List.mem_of_getElem? (i := 953) (by decide +kernel), rfl⟩
theorem kl_958 : zW (.methodLink "GlassPalaceLaw" 134 yX11_ahead) := ⟨List.mem_of_getElem? (i := 958) (by decide +kernel), rfl⟩
theorem kl_959 : zW (.instanceMethod yX11_ahead) := ⟨List.mem_of_getElem? (i := 959) (by decide +kernel), rfl⟩
theorem kl_960 : zW (.selects "GlassPalace" yX11_ahead yX11_ahead) := ⟨List.mem_of_getElem? (i := 960) (by decide +kernel), rfl⟩
theorem kl_961 : zW (.code yX11_ahead cX11_ahead 4 (some .int)) := ⟨List.mem_of_getElem? (i := 961) (by decide +kernel), rfl⟩
theorem kl_970 : zW (.methodLink "GlassPalaceLaw" 139 yX11_lack) := ⟨List.mem_of_getElem? (i := 970) (by decide +kernel), rfl⟩
theorem kl_971 : zW (.instanceMethod yX11_lack) := ⟨List.mem_of_getElem? (i := 971) (by decide +kernel), rfl⟩
theorem kl_972 : zW (.selects "GlassPalace" yX11_lack yX11_lack) := ⟨List.mem_of_getElem? (i := 972) (by decide +kernel), rfl⟩
theorem kl_973 : zW (.code yX11_lack cX11_lack 5 (some .int)) := ⟨List.mem_of_getElem? (i := 973) (by decide +kernel), rfl⟩
theorem kl_994 : zW (.methodLink "GlassPalaceLaw" 143 yX11_more) := ⟨List.mem_of_getElem? (i := 994) (by decide +kernel), rfl⟩
theorem kl_995 : zW (.instanceMethod yX11_more) := ⟨List.mem_of_getElem? (i := 995) (by decide +kernel), rfl⟩
theorem kl_996 : zW (.selects "GlassPalace" yX11_more yX11_more) := ⟨List.mem_of_getElem? (i := 996) (by decide +kernel), rfl⟩
theorem kl_997 : zW (.code yX11_more cX11_more 5 (some .int)) := ⟨List.mem_of_getElem? (i := 997) (by decide +kernel), rfl⟩
theorem kl_1002 : zW (.methodLink "GlassPalaceLaw" 147 yX11_best) := ⟨List.mem_of_getElem? (i := 1002) (by decide +kernel), rfl⟩
theorem kl_1003 : zW (.instanceMethod yX11_best) := ⟨List.mem_of_getElem? (i := 1003) (by decide +kernel), rfl⟩
theorem kl_1004 : zW (.selects "GlassPalace" yX11_best yX11_best) := ⟨List.mem_of_getElem? (i := 1004) (by decide +kernel), rfl⟩
theorem kl_1005 : zW (.code yX11_best cX11_best 1 (some .int)) := ⟨List.mem_of_getElem? (i := 1005) (by decide +kernel), rfl⟩
theorem kl_1021 : zW (.methodLink "GlassPalaceLaw" 151 yX11_let) := ⟨List.mem_of_getElem? (i := 1021) (by decide +kernel), rfl⟩
theorem kl_1022 : zW (.instanceMethod yX11_let) := ⟨List.mem_of_getElem? (i := 1022) (by decide +kernel), rfl⟩
theorem kl_1023 : zW (.selects "GlassPalace" yX11_let yX11_let) := ⟨List.mem_of_getElem? (i := 1023) (by decide +kernel), rfl⟩
theorem kl_1024 : zW (.code yX11_let cX11_let 3 (some .int)) := ⟨List.mem_of_getElem? (i := 1024) (by decide +kernel), rfl⟩
theorem kl_1044 : zW (.methodLink "GlassPalaceLaw" 155 yX11_nation) := ⟨List.mem_of_getElem? (i := 1044) (by decide +kernel), rfl⟩
theorem kl_1045 : zW (.instanceMethod yX11_nation) := ⟨List.mem_of_getElem? (i := 1045) (by decide +kernel), rfl⟩
theorem kl_1046 : zW (.selects "GlassPalace" yX11_nation yX11_nation) := ⟨List.mem_of_getElem? (i := 1046) (by decide +kernel), rfl⟩
theorem kl_1047 : zW (.code yX11_nation cX11_nation 3 (some .int)) := ⟨List.mem_of_getElem? (i := 1047) (by decide +kernel), rfl⟩
theorem kl_1048 : zW (.methodLink "GlassPalaceLaw" 159 yX11_unbuild) := ⟨List.mem_of_getElem? (i := 1048) (by decide +kernel), rfl⟩
theorem kl_1049 : zW (.instanceMethod yX11_unbuild) := ⟨List.mem_of_getElem? (i := 1049) (by decide +kernel), rfl⟩
theorem kl_1050 : zW (.selects "GlassPalace" yX11_unbuild yX11_unbuild) := ⟨List.mem_of_getElem? (i := 1050) (by decide +kernel), rfl⟩
theorem kl_1051 : zW (.code yX11_unbuild cX11_unbuild 8 (some .int)) := ⟨List.mem_of_getElem? (i := 1051) (by decide +kernel), rfl⟩
theorem kl_1052 : zW (.methodLink "GlassPalaceLaw" 163 yX11_known) := ⟨List.mem_of_getElem? (i := 1052) (by decide +kernel), rfl⟩
theorem kl_1053 : zW (.instanceMethod yX11_known) := ⟨List.mem_of_getElem? (i := 1053) (by decide +kernel), rfl⟩
theorem kl_1054 : zW (.selects "GlassPalace" yX11_known yX11_known) := ⟨List.mem_of_getElem? (i := 1054) (by decide +kernel), rfl⟩
theorem kl_1055 : zW (.code yX11_known cX11_known 8 (some .int)) := ⟨List.mem_of_getElem? (i := 1055) (by decide +kernel), rfl⟩
theorem kl_1056 : zW (.methodLink "GlassPalaceLaw" 168 yX11_act) := ⟨List.mem_of_getElem? (i := 1056) (by decide +kernel), rfl⟩
theorem kl_1057 : zW (.instanceMethod yX11_act) := ⟨List.mem_of_getElem? (i := 1057) (by decide +kernel), rfl⟩
theorem kl_1058 : zW (.selects "GlassPalace" yX11_act yX11_act) := ⟨List.mem_of_getElem? (i := 1058) (by decide +kernel), rfl⟩
theorem kl_1059 : zW (.code yX11_act cX11_act 5 (some .int)) := ⟨List.mem_of_getElem? (i := 1059) (by decide +kernel), rfl⟩
theorem kl_1080 : zW (.methodLink "GlassPalaceLaw" 172 yX11_trace) := ⟨List.mem_of_getElem? (i := 1080) (by decide +kernel), rfl⟩
theorem kl_1081 : zW (.instanceMethod yX11_trace) := ⟨List.mem_of_getElem? (i := 1081) (by decide +kernel), rfl⟩
theorem kl_1082 : zW (.selects "GlassPalace" yX11_trace yX11_trace) := ⟨List.mem_of_getElem? (i := 1082) (by decide +kernel), rfl⟩
theorem kl_1083 : zW (.code yX11_trace cX11_trace 2 (some .int)) := ⟨List.mem_of_getElem? (i := 1083) (by decide +kernel), rfl⟩
theorem kl_1088 : zW (.methodLink "GlassPalaceLaw" 176 yX11_taken) := ⟨List.mem_of_getElem? (i := 1088) (by decide +kernel), rfl⟩
theorem kl_1089 : zW (.instanceMethod yX11_taken) := ⟨List.mem_of_getElem? (i := 1089) (by decide +kernel), rfl⟩
theorem kl_1090 : zW (.selects "GlassPalace" yX11_taken yX11_taken) := ⟨List.mem_of_getElem? (i := 1090) (by decide +kernel), rfl⟩
theorem kl_1091 : zW (.code yX11_taken cX11_taken 4 (some .int)) := ⟨List.mem_of_getElem? (i := 1091) (by decide +kernel), rfl⟩
theorem kl_1096 : zW (.methodLink "GlassPalaceLaw" 180 yX11_list) := ⟨List.mem_of_getElem? (i := 1096) (by decide +kernel), rfl⟩
theorem kl_1097 : zW (.instanceMethod yX11_list) := ⟨List.mem_of_getElem? (i := 1097) (by decide +kernel), rfl⟩
theorem kl_1098 : zW (.selects "GlassPalace" yX11_list yX11_list) := ⟨List.mem_of_getElem? (i := 1098) (by decide +kernel), rfl⟩
theorem kl_1099 : zW (.code yX11_list cX11_list 10 (some .long)) := ⟨List.mem_of_getElem? (i := 1099) (by decide +kernel), rfl⟩
theorem kl_1123 : zW (.methodLink "GlassPalaceLaw" 185 yX11_count) := ⟨List.mem_of_getElem? (i := 1123) (by decide +kernel), rfl⟩
theorem kl_1124 : zW (.instanceMethod yX11_count) := ⟨List.mem_of_getElem? (i := 1124) (by decide +kernel), rfl⟩
theorem kl_1125 : zW (.selects "GlassPalace" yX11_count yX11_count) := ⟨List.mem_of_getElem? (i := 1125) (by decide +kernel), rfl⟩
theorem kl_1126 : zW (.code yX11_count cX11_count 2 (some .int)) := ⟨List.mem_of_getElem? (i := 1126) (by decide +kernel), rfl⟩
theorem kl_1135 : zW (.methodLink "GlassPalaceLaw" 189 yX11_tape) := ⟨List.mem_of_getElem? (i := 1135) (by decide +kernel), rfl⟩
theorem kl_1136 : zW (.instanceMethod yX11_tape) := ⟨List.mem_of_getElem? (i := 1136) (by decide +kernel), rfl⟩
theorem kl_1137 : zW (.selects "GlassPalace" yX11_tape yX11_tape) := ⟨List.mem_of_getElem? (i := 1137) (by decide +kernel), rfl⟩
theorem kl_1138 : zW (.code yX11_tape cX11_tape 5 (some .int)) := ⟨List.mem_of_getElem? (i := 1138) (by decide +kernel), rfl⟩
theorem kl_1143 : zW (.methodLink "GlassPalaceLaw" 195 yX11_item) := ⟨List.mem_of_getElem? (i := 1143) (by decide +kernel), rfl⟩
theorem kl_1144 : zW (.instanceMethod yX11_item) := ⟨List.mem_of_getElem? (i := 1144) (by decide +kernel), rfl⟩
theorem kl_1145 : zW (.selects "GlassPalace" yX11_item yX11_item) := ⟨List.mem_of_getElem? (i := 1145) (by decide +kernel), rfl⟩
theorem kl_1146 : zW (.code yX11_item cX11_item 6 (some .int)) := ⟨List.mem_of_getElem? (i := 1146) (by decide +kernel), rfl⟩
theorem kl_1155 : zW (.methodLink "GlassPalaceLaw" 200 yX11_read) := ⟨List.mem_of_getElem? (i := 1155) (by decide +kernel), rfl⟩
theorem kl_1156 : zW (.instanceMethod yX11_read) := ⟨List.mem_of_getElem? (i := 1156) (by decide +kernel), rfl⟩
theorem kl_1157 : zW (.selects "GlassPalace" yX11_read yX11_read) := ⟨List.mem_of_getElem? (i := 1157) (by decide +kernel), rfl⟩
theorem kl_1158 : zW (.code yX11_read cX11_read 4 (some .long)) := ⟨List.mem_of_getElem? (i := 1158) (by decide +kernel), rfl⟩
theorem kl_1159 : zW (.methodLink "GlassPalaceLaw" 205 yX11_shift) := ⟨List.mem_of_getElem? (i := 1159) (by decide +kernel), rfl⟩
theorem kl_1160 : zW (.instanceMethod yX11_shift) := ⟨List.mem_of_getElem? (i := 1160) (by decide +kernel), rfl⟩
theorem kl_1161 : zW (.selects "GlassPalace" yX11_shift yX11_shift) := ⟨List.mem_of_getElem? (i := 1161) (by decide +kernel), rfl⟩
theorem kl_1162 : zW (.code yX11_shift cX11_shift 8 (some .int)) := ⟨List.mem_of_getElem? (i := 1162) (by decide +kernel), rfl⟩
theorem kl_1170 : zW (.classLink "GlassPalaceLaw" 10 "GlassPalaceModel") := ⟨List.mem_of_getElem? (i := 1170) (by decide +kernel), rfl⟩
theorem kl_1171 : zW (.instantiable "GlassPalaceModel" 72) := ⟨List.mem_of_getElem? (i := 1171) (by decide +kernel), rfl⟩
theorem kl_1172 : zW (.methodLink "GlassPalaceLaw" 12 yX12_init) := ⟨List.mem_of_getElem? (i := 1172) (by decide +kernel), rfl⟩
theorem kl_1394 : zW (.methodLink "GlassPalaceLaw" 17 yX12_pass) := ⟨List.mem_of_getElem? (i := 1394) (by decide +kernel), rfl⟩
theorem kl_1395 : zW (.instanceMethod yX12_pass) := ⟨List.mem_of_getElem? (i := 1395) (by decide +kernel), rfl⟩
theorem kl_1396 : zW (.selects "GlassPalaceModel" yX12_pass yX12_pass) := ⟨List.mem_of_getElem? (i := 1396) (by decide +kernel), rfl⟩
theorem kl_1397 : zW (.code yX12_pass cX12_pass 3 (some .int)) := ⟨List.mem_of_getElem? (i := 1397) (by decide +kernel), rfl⟩
theorem kl_1402 : zW (.methodLink "GlassPalaceLaw" 22 yX12_bay) := ⟨List.mem_of_getElem? (i := 1402) (by decide +kernel), rfl⟩
theorem kl_1403 : zW (.instanceMethod yX12_bay) := ⟨List.mem_of_getElem? (i := 1403) (by decide +kernel), rfl⟩
theorem kl_1404 : zW (.selects "GlassPalaceModel" yX12_bay yX12_bay) := ⟨List.mem_of_getElem? (i := 1404) (by decide +kernel), rfl⟩
theorem kl_1405 : zW (.code yX12_bay cX12_bay 5 (some .int)) := ⟨List.mem_of_getElem? (i := 1405) (by decide +kernel), rfl⟩
theorem kl_1418 : zW (.methodLink "GlassPalaceLaw" 26 yX12_foundry) := ⟨List.mem_of_getElem? (i := 1418) (by decide +kernel), rfl⟩
theorem kl_1419 : zW (.instanceMethod yX12_foundry) := ⟨List.mem_of_getElem? (i := 1419) (by decide +kernel), rfl⟩
theorem kl_1420 : zW (.selects "GlassPalaceModel" yX12_foundry yX12_foundry) := ⟨List.mem_of_getElem? (i := 1420) (by decide +kernel), rfl⟩
theorem kl_1421 : zW (.code yX12_foundry cX12_foundry 4 (some .int)) := ⟨List.mem_of_getElem? (i := 1421) (by decide +kernel), rfl⟩
theorem kl_1426 : zW (.methodLink "GlassPalaceLaw" 31 yX12_order) := ⟨List.mem_of_getElem? (i := 1426) (by decide +kernel), rfl⟩
theorem kl_1427 : zW (.instanceMethod yX12_order) := ⟨List.mem_of_getElem? (i := 1427) (by decide +kernel), rfl⟩
theorem kl_1428 : zW (.selects "GlassPalaceModel" yX12_order yX12_order) := ⟨List.mem_of_getElem? (i := 1428) (by decide +kernel), rfl⟩
theorem kl_1429 : zW (.code yX12_order cX12_order 5 (some .int)) := ⟨List.mem_of_getElem? (i := 1429) (by decide +kernel), rfl⟩
theorem kl_1430 : zW (.methodLink "GlassPalaceLaw" 36 yX12_come) := ⟨List.mem_of_getElem? (i := 1430) (by decide +kernel), rfl⟩
theorem kl_1431 : zW (.instanceMethod yX12_come) := ⟨List.mem_of_getElem? (i := 1431) (by decide +kernel), rfl⟩
theorem kl_1432 : zW (.selects "GlassPalaceModel" yX12_come yX12_come) := ⟨List.mem_of_getElem? (i := 1432) (by decide +kernel), rfl⟩
theorem kl_1433 : zW (.code yX12_come cX12_come 3 (some .int)) := ⟨List.mem_of_getElem? (i := 1433) (by decide +kernel), rfl⟩
theorem kl_1438 : zW (.methodLink "GlassPalaceLaw" 40 yX12_of) := ⟨List.mem_of_getElem? (i := 1438) (by decide +kernel), rfl⟩
theorem kl_1439 : zW (.instanceMethod yX12_of) := ⟨List.mem_of_getElem? (i := 1439) (by decide +kernel), rfl⟩
theorem kl_1440 : zW (.selects "GlassPalaceModel" yX12_of yX12_of) := ⟨List.mem_of_getElem? (i := 1440) (by decide +kernel), rfl⟩
theorem kl_1441 : zW (.code yX12_of cX12_of 3 (some .int)) := ⟨List.mem_of_getElem? (i := 1441) (by decide +kernel), rfl⟩
theorem kl_1513 : zW (.methodLink "GlassPalaceLaw" 44 yX12_tried) := ⟨List.mem_of_getElem? (i := 1513) (by decide +kernel), rfl⟩
theorem kl_1514 : zW (.instanceMethod yX12_tried) := ⟨List.mem_of_getElem? (i := 1514) (by decide +kernel), rfl⟩
theorem kl_1515 : zW (.selects "GlassPalaceModel" yX12_tried yX12_tried) := ⟨List.mem_of_getElem? (i := 1515) (by decide +kernel), rfl⟩
theorem kl_1516 : zW (.code yX12_tried cX12_tried 3 (some .int)) := ⟨List.mem_of_getElem? (i := 1516) (by decide +kernel), rfl⟩
theorem kl_1517 : zW (.methodLink "GlassPalaceLaw" 48 yX12_sell) := ⟨List.mem_of_getElem? (i := 1517) (by decide +kernel), rfl⟩
theorem kl_1518 : zW (.instanceMethod yX12_sell) := ⟨List.mem_of_getElem? (i := 1518) (by decide +kernel), rfl⟩
theorem kl_1519 : zW (.selects "GlassPalaceModel" yX12_sell yX12_sell) := ⟨List.mem_of_getElem? (i := 1519) (by decide +kernel), rfl⟩
theorem kl_1520 : zW (.code yX12_sell cX12_sell 3 (some .int)) := ⟨List.mem_of_getElem? (i := 1520) (by decide +kernel), rfl⟩
theorem kl_1521 : zW (.methodLink "GlassPalaceLaw" 52 yX12_wants) := ⟨List.mem_of_getElem? (i := 1521) (by decide +kernel), rfl⟩
theorem kl_1522 : zW (.instanceMethod yX12_wants) := ⟨List.mem_of_getElem? (i := 1522) (by decide +kernel), rfl⟩
theorem kl_1523 : zW (.selects "GlassPalaceModel" yX12_wants yX12_wants) := ⟨List.mem_of_getElem? (i := 1523) (by decide +kernel), rfl⟩
theorem kl_1524 : zW (.code yX12_wants cX12_wants 2 (some .int)) := ⟨List.mem_of_getElem? (i := 1524) (by decide +kernel), rfl⟩
theorem kl_1529 : zW (.methodLink "GlassPalaceLaw" 56 yX12_fit) := ⟨List.mem_of_getElem? (i := 1529) (by decide +kernel), rfl⟩
theorem kl_1530 : zW (.instanceMethod yX12_fit) := ⟨List.mem_of_getElem? (i := 1530) (by decide +kernel), rfl⟩
theorem kl_1531 : zW (.selects "GlassPalaceModel" yX12_fit yX12_fit) := ⟨List.mem_of_getElem? (i := 1531) (by decide +kernel), rfl⟩
theorem kl_1532 : zW (.code yX12_fit cX12_fit 3 (some .int)) := ⟨List.mem_of_getElem? (i := 1532) (by decide +kernel), rfl⟩
theorem kl_1541 : zW (.methodLink "GlassPalaceLaw" 60 yX12_set) := ⟨List.mem_of_getElem? (i := 1541) (by decide +kernel), rfl⟩
theorem kl_1542 : zW (.instanceMethod yX12_set) := ⟨List.mem_of_getElem? (i := 1542) (by decide +kernel), rfl⟩
theorem kl_1543 : zW (.selects "GlassPalaceModel" yX12_set yX12_set) := ⟨List.mem_of_getElem? (i := 1543) (by decide +kernel), rfl⟩
theorem kl_1544 : zW (.code yX12_set cX12_set 3 (some .int)) := ⟨List.mem_of_getElem? (i := 1544) (by decide +kernel), rfl⟩
theorem kl_1549 : zW (.methodLink "GlassPalaceLaw" 64 yX12_at) := ⟨List.mem_of_getElem? (i := 1549) (by decide +kernel), rfl⟩
theorem kl_1550 : zW (.instanceMethod yX12_at) := ⟨List.mem_of_getElem? (i := 1550) (by decide +kernel), rfl⟩
theorem kl_1551 : zW (.selects "GlassPalaceModel" yX12_at yX12_at) := ⟨List.mem_of_getElem? (i := 1551) (by decide +kernel), rfl⟩
theorem kl_1552 : zW (.code yX12_at cX12_at 3 (some .int)) := ⟨List.mem_of_getElem? (i := 1552) (by decide +kernel), rfl⟩
theorem kl_1557 : zW (.methodLink "GlassPalaceLaw" 68 yX12_down) := ⟨List.mem_of_getElem? (i := 1557) (by decide +kernel), rfl⟩
theorem kl_1558 : zW (.instanceMethod yX12_down) := ⟨List.mem_of_getElem? (i := 1558) (by decide +kernel), rfl⟩
theorem kl_1559 : zW (.selects "GlassPalaceModel" yX12_down yX12_down) := ⟨List.mem_of_getElem? (i := 1559) (by decide +kernel), rfl⟩
theorem kl_1560 : zW (.code yX12_down cX12_down 4 (some .int)) := ⟨List.mem_of_getElem? (i := 1560) (by decide +kernel), rfl⟩
theorem kl_1561 : zW (.methodLink "GlassPalaceLaw" 72 yX12_cut) := ⟨List.mem_of_getElem? (i := 1561) (by decide +kernel), rfl⟩
theorem kl_1562 : zW (.instanceMethod yX12_cut) := ⟨List.mem_of_getElem? (i := 1562) (by decide +kernel), rfl⟩
theorem kl_1563 : zW (.selects "GlassPalaceModel" yX12_cut yX12_cut) := ⟨List.mem_of_getElem? (i := 1563) (by decide +kernel), rfl⟩
theorem kl_1564 : zW (.code yX12_cut cX12_cut 3 (some .int)) := ⟨List.mem_of_getElem? (i := 1564) (by decide +kernel), rfl⟩
theorem kl_1569 : zW (.methodLink "GlassPalaceLaw" 76 yX12_feed) := ⟨List.mem_of_getElem? (i := 1569) (by decide +kernel), rfl⟩
theorem kl_1570 : zW (.instanceMethod yX12_feed) := ⟨List.mem_of_getElem? (i := 1570) (by decide +kernel), rfl⟩
theorem kl_1571 : zW (.selects "GlassPalaceModel" yX12_feed yX12_feed) := ⟨List.mem_of_getElem? (i := 1571) (by decide +kernel), rfl⟩
theorem kl_1572 : zW (.code yX12_feed cX12_feed 4 (some .int)) := ⟨List.mem_of_getElem? (i := 1572) (by decide +kernel), rfl⟩
theorem kl_1573 : zW (.methodLink "GlassPalaceLaw" 80 yX12_law) := ⟨List.mem_of_getElem? (i := 1573) (by decide +kernel), rfl⟩
theorem kl_1574 : zW (.instanceMethod yX12_law) := ⟨List.mem_of_getElem? (i := 1574) (by decide +kernel), rfl⟩
theorem kl_1575 : zW (.selects "GlassPalaceModel" yX12_law yX12_law) := ⟨List.mem_of_getElem? (i := 1575) (by decide +kernel), rfl⟩
theorem kl_1576 : zW (.code yX12_law cX12_law 3 (some .int)) := ⟨List.mem_of_getElem? (i := 1576) (by decide +kernel), rfl⟩
theorem kl_1581 : zW (.methodLink "GlassPalaceLaw" 84 yX12_force) := ⟨List.mem_of_getElem? (i := 1581) (by decide +kernel), rfl⟩
theorem kl_1582 : zW (.instanceMethod yX12_force) := ⟨List.mem_of_getElem? (i := 1582) (by decide +kernel), rfl⟩
theorem kl_1583 : zW (.selects "GlassPalaceModel" yX12_force yX12_force) := ⟨List.mem_of_getElem? (i := 1583) (by decide +kernel), rfl⟩
theorem kl_1584 : zW (.code yX12_force cX12_force 4 (some .int)) := ⟨List.mem_of_getElem? (i := 1584) (by decide +kernel), rfl⟩
theorem kl_1585 : zW (.methodLink "GlassPalaceLaw" 88 yX12_why) := ⟨List.mem_of_getElem? (i := 1585) (by decide +kernel), rfl⟩
theorem kl_1586 : zW (.instanceMethod yX12_why) := ⟨List.mem_of_getElem? (i := 1586) (by decide +kernel), rfl⟩
theorem kl_1587 : zW (.selects "GlassPalaceModel" yX12_why yX12_why) := ⟨List.mem_of_getElem? (i := 1587) (by decide +kernel), rfl⟩
theorem kl_1588 : zW (.code yX12_why cX12_why 4 (some .int)) := ⟨List.mem_of_getElem? (i := 1588) (by decide +kernel), rfl⟩
theorem kl_1589 : zW (.methodLink "GlassPalaceLaw" 92 yX12_people) := ⟨List.mem_of_getElem? (i := 1589) (by decide +kernel), rfl⟩
theorem kl_1590 : zW (.instanceMethod yX12_people) := ⟨List.mem_of_getElem? (i := 1590) (by decide +kernel), rfl⟩
theorem kl_1591 : zW (.selects "GlassPalaceModel" yX12_people yX12_people) := ⟨List.mem_of_getElem? (i := 1591) (by decide +kernel), rfl⟩
theorem kl_1592 : zW (.code yX12_people cX12_people 4 (some .int)) := ⟨List.mem_of_getElem? (i := 1592) (by decide +kernel), rfl⟩
theorem kl_1593 : zW (.methodLink "GlassPalaceLaw" 96 yX12_bears) := ⟨List.mem_of_getElem? (i := 1593) (by decide +kernel), rfl⟩
theorem kl_1594 : zW (.instanceMethod yX12_bears) := ⟨List.mem_of_getElem? (i := 1594) (by decide +kernel), rfl⟩
theorem kl_1595 : zW (.selects "GlassPalaceModel" yX12_bears yX12_bears) := ⟨List.mem_of_getElem? (i := 1595) (by decide +kernel), rfl⟩
theorem kl_1596 : zW (.code yX12_bears cX12_bears 3 (some .int)) := ⟨List.mem_of_getElem? (i := 1596) (by decide +kernel), rfl⟩
theorem kl_1613 : zW (.methodLink "GlassPalaceLaw" 101 yX12_breaks) := ⟨List.mem_of_getElem? (i := 1613) (by decide +kernel), rfl⟩
theorem kl_1614 : zW (.instanceMethod yX12_breaks) := ⟨List.mem_of_getElem? (i := 1614) (by decide +kernel), rfl⟩
theorem kl_1615 : zW (.selects "GlassPalaceModel" yX12_breaks yX12_breaks) := ⟨List.mem_of_getElem? (i := 1615) (by decide +kernel), rfl⟩
theorem kl_1616 : zW (.code yX12_breaks cX12_breaks 3 (some .int)) := ⟨List.mem_of_getElem? (i := 1616) (by decide +kernel), rfl⟩
theorem kl_1617 : zW (.methodLink "GlassPalaceLaw" 105 yX12_rain) := ⟨List.mem_of_getElem? (i := 1617) (by decide +kernel), rfl⟩
theorem kl_1618 : zW (.instanceMethod yX12_rain) := ⟨List.mem_of_getElem? (i := 1618) (by decide +kernel), rfl⟩
theorem kl_1619 : zW (.selects "GlassPalaceModel" yX12_rain yX12_rain) := ⟨List.mem_of_getElem? (i := 1619) (by decide +kernel), rfl⟩
theorem kl_1620 : zW (.code yX12_rain cX12_rain 4 (some .int)) := ⟨List.mem_of_getElem? (i := 1620) (by decide +kernel), rfl⟩
theorem kl_1621 : zW (.methodLink "GlassPalaceLaw" 109 yX12_leads) := ⟨List.mem_of_getElem? (i := 1621) (by decide +kernel), rfl⟩
theorem kl_1622 : zW (.instanceMethod yX12_leads) := ⟨List.mem_of_getElem? (i := 1622) (by decide +kernel), rfl⟩
theorem kl_1623 : zW (.selects "GlassPalaceModel" yX12_leads yX12_leads) := ⟨List.mem_of_getElem? (i := 1623) (by decide +kernel), rfl⟩
theorem kl_1624 : zW (.code yX12_leads cX12_leads 3 (some .int)) := ⟨List.mem_of_getElem? (i := 1624) (by decide +kernel), rfl⟩
theorem kl_1633 : zW (.methodLink "GlassPalaceLaw" 113 yX12_stands) := ⟨List.mem_of_getElem? (i := 1633) (by decide +kernel), rfl⟩
theorem kl_1634 : zW (.instanceMethod yX12_stands) := ⟨List.mem_of_getElem? (i := 1634) (by decide +kernel), rfl⟩
theorem kl_1635 : zW (.selects "GlassPalaceModel" yX12_stands yX12_stands) := ⟨List.mem_of_getElem? (i := 1635) (by decide +kernel), rfl⟩
theorem kl_1636 : zW (.code yX12_stands cX12_stands 3 (some .int)) := ⟨List.mem_of_getElem? (i := 1636) (by decide +kernel), rfl⟩
theorem kl_1641 : zW (.methodLink "GlassPalaceLaw" 117 yX12_leaks) := ⟨List.mem_of_getElem? (i := 1641) (by decide +kernel), rfl⟩
theorem kl_1642 : zW (.instanceMethod yX12_leaks) := ⟨List.mem_of_getElem? (i := 1642) (by decide +kernel), rfl⟩
theorem kl_1643 : zW (.selects "GlassPalaceModel" yX12_leaks yX12_leaks) := ⟨List.mem_of_getElem? (i := 1643) (by decide +kernel), rfl⟩
theorem kl_1644 : zW (.code yX12_leaks cX12_leaks 4 (some .int)) := ⟨List.mem_of_getElem? (i := 1644) (by decide +kernel), rfl⟩
theorem kl_1645 : zW (.methodLink "GlassPalaceLaw" 121 yX12_gang) := ⟨List.mem_of_getElem? (i := 1645) (by decide +kernel), rfl⟩
theorem kl_1646 : zW (.instanceMethod yX12_gang) := ⟨List.mem_of_getElem? (i := 1646) (by decide +kernel), rfl⟩
theorem kl_1647 : zW (.selects "GlassPalaceModel" yX12_gang yX12_gang) := ⟨List.mem_of_getElem? (i := 1647) (by decide +kernel), rfl⟩
theorem kl_1648 : zW (.code yX12_gang cX12_gang 3 (some .int)) := ⟨List.mem_of_getElem? (i := 1648) (by decide +kernel), rfl⟩
theorem kl_1649 : zW (.methodLink "GlassPalaceLaw" 129 yX12_pace) := ⟨List.mem_of_getElem? (i := 1649) (by decide +kernel), rfl⟩
theorem kl_1650 : zW (.instanceMethod yX12_pace) := ⟨List.mem_of_getElem? (i := 1650) (by decide +kernel), rfl⟩
theorem kl_1651 : zW (.selects "GlassPalaceModel" yX12_pace yX12_pace) := ⟨List.mem_of_getElem? (i := 1651) (by decide +kernel), rfl⟩
theorem kl_1652 : zW (.code yX12_pace cX12_pace 2 (some .int)) := ⟨List.mem_of_getElem? (i := 1652) (by decide +kernel), rfl⟩
theorem kl_1661 : zW (.methodLink "GlassPalaceLaw" 125 yX12_work) := ⟨List.mem_of_getElem? (i := 1661) (by decide +kernel), rfl⟩
theorem kl_1662 : zW (.instanceMethod yX12_work) := ⟨List.mem_of_getElem? (i := 1662) (by decide +kernel), rfl⟩
theorem kl_1663 : zW (.selects "GlassPalaceModel" yX12_work yX12_work) := ⟨List.mem_of_getElem? (i := 1663) (by decide +kernel), rfl⟩
theorem kl_1664 : zW (.code yX12_work cX12_work 7 (some .int)) := ⟨List.mem_of_getElem? (i := 1664) (by decide +kernel), rfl⟩
theorem kl_1665 : zW (.methodLink "GlassPalaceLaw" 133 yX12_want) := ⟨List.mem_of_getElem? (i := 1665) (by decide +kernel), rfl⟩
theorem kl_1666 : zW (.instanceMethod yX12_want) := ⟨List.mem_of_getElem? (i := 1666) (by decide +kernel), rfl⟩
theorem kl_1667 : zW (.selects "GlassPalaceModel" yX12_want yX12_want) := ⟨List.mem_of_getElem? (i := 1667) (by decide +kernel), rfl⟩
theorem kl_1668 : zW (.code yX12_want cX12_want 4 (some .int)) := ⟨List.mem_of_getElem? (i := 1668) (by decide +kernel), rfl⟩
theorem kl_1673 : zW (.methodLink "GlassPalaceLaw" 138 yX12_ahead) := ⟨List.mem_of_getElem? (i := 1673) (by decide +kernel), rfl⟩
theorem kl_1674 : zW (.instanceMethod yX12_ahead) := ⟨List.mem_of_getElem? (i := 1674) (by decide +kernel), rfl⟩
theorem kl_1675 : zW (.selects "GlassPalaceModel" yX12_ahead yX12_ahead) := ⟨List.mem_of_getElem? (i := 1675) (by decide +kernel), rfl⟩
theorem kl_1676 : zW (.code yX12_ahead cX12_ahead 4 (some .int)) := ⟨List.mem_of_getElem? (i := 1676) (by decide +kernel), rfl⟩
theorem kl_1681 : zW (.methodLink "GlassPalaceLaw" 142 yX12_lack) := ⟨List.mem_of_getElem? (i := 1681) (by decide +kernel), rfl⟩
theorem kl_1682 : zW (.instanceMethod yX12_lack) := ⟨List.mem_of_getElem? (i := 1682) (by decide +kernel), rfl⟩
theorem kl_1683 : zW (.selects "GlassPalaceModel" yX12_lack yX12_lack) := ⟨List.mem_of_getElem? (i := 1683) (by decide +kernel), rfl⟩
theorem kl_1684 : zW (.code yX12_lack cX12_lack 5 (some .int)) := ⟨List.mem_of_getElem? (i := 1684) (by decide +kernel), rfl⟩
theorem kl_1693 : zW (.methodLink "GlassPalaceLaw" 146 yX12_more) := ⟨List.mem_of_getElem? (i := 1693) (by decide +kernel), rfl⟩
theorem kl_1694 : zW (.instanceMethod yX12_more) := ⟨List.mem_of_getElem? (i := 1694) (by decide +kernel), rfl⟩
theorem kl_1695 : zW (.selects "GlassPalaceModel" yX12_more yX12_more) := ⟨List.mem_of_getElem? (i := 1695) (by decide +kernel), rfl⟩
theorem kl_1696 : zW (.code yX12_more cX12_more 5 (some .int)) := ⟨List.mem_of_getElem? (i := 1696) (by decide +kernel), rfl⟩
theorem kl_1697 : zW (.methodLink "GlassPalaceLaw" 150 yX12_best) := ⟨List.mem_of_getElem? (i := 1697) (by decide +kernel), rfl⟩
theorem kl_1698 : zW (.instanceMethod yX12_best) := ⟨List.mem_of_getElem? (i := 1698) (by decide +kernel), rfl⟩
theorem kl_1699 : zW (.selects "GlassPalaceModel" yX12_best yX12_best) := ⟨List.mem_of_getElem? (i := 1699) (by decide +kernel), rfl⟩
theorem kl_1700 : zW (.code yX12_best cX12_best 8 (some .int)) := ⟨List.mem_of_getElem? (i := 1700) (by decide +kernel), rfl⟩
theorem kl_1701 : zW (.methodLink "GlassPalaceLaw" 154 yX12_let) := ⟨List.mem_of_getElem? (i := 1701) (by decide +kernel), rfl⟩
theorem kl_1702 : zW (.instanceMethod yX12_let) := ⟨List.mem_of_getElem? (i := 1702) (by decide +kernel), rfl⟩
theorem kl_1703 : zW (.selects "GlassPalaceModel" yX12_let yX12_let) := ⟨List.mem_of_getElem? (i := 1703) (by decide +kernel), rfl⟩
theorem kl_1704 : zW (.code yX12_let cX12_let 8 (some .int)) := ⟨List.mem_of_getElem? (i := 1704) (by decide +kernel), rfl⟩
theorem kl_1709 : zW (.methodLink "GlassPalaceLaw" 158 yX12_nation) := ⟨List.mem_of_getElem? (i := 1709) (by decide +kernel), rfl⟩
theorem kl_1710 : zW (.instanceMethod yX12_nation) := ⟨List.mem_of_getElem? (i := 1710) (by decide +kernel), rfl⟩
theorem kl_1711 : zW (.selects "GlassPalaceModel" yX12_nation yX12_nation) := ⟨List.mem_of_getElem? (i := 1711) (by decide +kernel), rfl⟩
theorem kl_1712 : zW (.code yX12_nation cX12_nation 3 (some .int)) := ⟨List.mem_of_getElem? (i := 1712) (by decide +kernel), rfl⟩
theorem kl_1713 : zW (.methodLink "GlassPalaceLaw" 162 yX12_unbuild) := ⟨List.mem_of_getElem? (i := 1713) (by decide +kernel), rfl⟩
theorem kl_1714 : zW (.instanceMethod yX12_unbuild) := ⟨List.mem_of_getElem? (i := 1714) (by decide +kernel), rfl⟩
theorem kl_1715 : zW (.selects "GlassPalaceModel" yX12_unbuild yX12_unbuild) := ⟨List.mem_of_getElem? (i := 1715) (by decide +kernel), rfl⟩
theorem kl_1716 : zW (.code yX12_unbuild cX12_unbuild 5 (some .int)) := ⟨List.mem_of_getElem? (i := 1716) (by decide +kernel), rfl⟩
theorem kl_1725 : zW (.methodLink "GlassPalaceLaw" 167 yX12_known) := ⟨List.mem_of_getElem? (i := 1725) (by decide +kernel), rfl⟩
theorem kl_1726 : zW (.instanceMethod yX12_known) := ⟨List.mem_of_getElem? (i := 1726) (by decide +kernel), rfl⟩
theorem kl_1727 : zW (.selects "GlassPalaceModel" yX12_known yX12_known) := ⟨List.mem_of_getElem? (i := 1727) (by decide +kernel), rfl⟩
theorem kl_1728 : zW (.code yX12_known cX12_known 5 (some .int)) := ⟨List.mem_of_getElem? (i := 1728) (by decide +kernel), rfl⟩
theorem kl_1729 : zW (.methodLink "GlassPalaceLaw" 171 yX12_act) := ⟨List.mem_of_getElem? (i := 1729) (by decide +kernel), rfl⟩
theorem kl_1730 : zW (.instanceMethod yX12_act) := ⟨List.mem_of_getElem? (i := 1730) (by decide +kernel), rfl⟩
theorem kl_1731 : zW (.selects "GlassPalaceModel" yX12_act yX12_act) := ⟨List.mem_of_getElem? (i := 1731) (by decide +kernel), rfl⟩
theorem kl_1732 : zW (.code yX12_act cX12_act 4 (some .int)) := ⟨List.mem_of_getElem? (i := 1732) (by decide +kernel), rfl⟩
theorem kl_1765 : zW (.methodLink "GlassPalaceLaw" 175 yX12_trace) := ⟨List.mem_of_getElem? (i := 1765) (by decide +kernel), rfl⟩
theorem kl_1766 : zW (.instanceMethod yX12_trace) := ⟨List.mem_of_getElem? (i := 1766) (by decide +kernel), rfl⟩
theorem kl_1767 : zW (.selects "GlassPalaceModel" yX12_trace yX12_trace) := ⟨List.mem_of_getElem? (i := 1767) (by decide +kernel), rfl⟩
theorem kl_1768 : zW (.code yX12_trace cX12_trace 2 (some .int)) := ⟨List.mem_of_getElem? (i := 1768) (by decide +kernel), rfl⟩
theorem kl_1769 : zW (.methodLink "GlassPalaceLaw" 179 yX12_taken) := ⟨List.mem_of_getElem? (i := 1769) (by decide +kernel), rfl⟩
theorem kl_1770 : zW (.instanceMethod yX12_taken) := ⟨List.mem_of_getElem? (i := 1770) (by decide +kernel), rfl⟩
theorem kl_1771 : zW (.selects "GlassPalaceModel" yX12_taken yX12_taken) := ⟨List.mem_of_getElem? (i := 1771) (by decide +kernel), rfl⟩
theorem kl_1772 : zW (.code yX12_taken cX12_taken 3 (some .int)) := ⟨List.mem_of_getElem? (i := 1772) (by decide +kernel), rfl⟩
theorem kl_1773 : zW (.methodLink "GlassPalaceLaw" 188 yX12_count) := ⟨List.mem_of_getElem? (i := 1773) (by decide +kernel), rfl⟩
theorem kl_1774 : zW (.instanceMethod yX12_count) := ⟨List.mem_of_getElem? (i := 1774) (by decide +kernel), rfl⟩
theorem kl_1775 : zW (.selects "GlassPalaceModel" yX12_count yX12_count) := ⟨List.mem_of_getElem? (i := 1775) (by decide +kernel), rfl⟩
theorem kl_1776 : zW (.code yX12_count cX12_count 2 (some .int)) := ⟨List.mem_of_getElem? (i := 1776) (by decide +kernel), rfl⟩
theorem kl_1781 : zW (.methodLink "GlassPalaceLaw" 184 yX12_list) := ⟨List.mem_of_getElem? (i := 1781) (by decide +kernel), rfl⟩
theorem kl_1782 : zW (.instanceMethod yX12_list) := ⟨List.mem_of_getElem? (i := 1782) (by decide +kernel), rfl⟩
theorem kl_1783 : zW (.selects "GlassPalaceModel" yX12_list yX12_list) := ⟨List.mem_of_getElem? (i := 1783) (by decide +kernel), rfl⟩
theorem kl_1784 : zW (.code yX12_list cX12_list 9 (some .long)) := ⟨List.mem_of_getElem? (i := 1784) (by decide +kernel), rfl⟩
theorem kl_1793 : zW (.methodLink "GlassPalaceLaw" 192 yX12_tape) := ⟨List.mem_of_getElem? (i := 1793) (by decide +kernel), rfl⟩
theorem kl_1794 : zW (.instanceMethod yX12_tape) := ⟨List.mem_of_getElem? (i := 1794) (by decide +kernel), rfl⟩
theorem kl_1795 : zW (.selects "GlassPalaceModel" yX12_tape yX12_tape) := ⟨List.mem_of_getElem? (i := 1795) (by decide +kernel), rfl⟩
theorem kl_1796 : zW (.code yX12_tape cX12_tape 5 (some .int)) := ⟨List.mem_of_getElem? (i := 1796) (by decide +kernel), rfl⟩
theorem kl_1797 : zW (.methodLink "GlassPalaceLaw" 199 yX12_item) := ⟨List.mem_of_getElem? (i := 1797) (by decide +kernel), rfl⟩
theorem kl_1798 : zW (.instanceMethod yX12_item) := ⟨List.mem_of_getElem? (i := 1798) (by decide +kernel), rfl⟩
theorem kl_1799 : zW (.selects "GlassPalaceModel" yX12_item yX12_item) := ⟨List.mem_of_getElem? (i := 1799) (by decide +kernel), rfl⟩
theorem kl_1800 : zW (.code yX12_item cX12_item 5 (some .int)) := ⟨List.mem_of_getElem? (i := 1800) (by decide +kernel), rfl⟩
theorem kl_1805 : zW (.methodLink "GlassPalaceLaw" 204 yX12_read) := ⟨List.mem_of_getElem? (i := 1805) (by decide +kernel), rfl⟩
theorem kl_1806 : zW (.instanceMethod yX12_read) := ⟨List.mem_of_getElem? (i := 1806) (by decide +kernel), rfl⟩
theorem kl_1807 : zW (.selects "GlassPalaceModel" yX12_read yX12_read) := ⟨List.mem_of_getElem? (i := 1807) (by decide +kernel), rfl⟩
theorem kl_1808 : zW (.code yX12_read cX12_read 3 (some .long)) := ⟨List.mem_of_getElem? (i := 1808) (by decide +kernel), rfl⟩
theorem kl_1809 : zW (.methodLink "GlassPalaceLaw" 209 yX12_shift) := ⟨List.mem_of_getElem? (i := 1809) (by decide +kernel), rfl⟩
theorem kl_1810 : zW (.instanceMethod yX12_shift) := ⟨List.mem_of_getElem? (i := 1810) (by decide +kernel), rfl⟩
theorem kl_1811 : zW (.selects "GlassPalaceModel" yX12_shift yX12_shift) := ⟨List.mem_of_getElem? (i := 1811) (by decide +kernel), rfl⟩
theorem kl_1812 : zW (.code yX12_shift cX12_shift 7 (some .int)) := ⟨List.mem_of_getElem? (i := 1812) (by decide +kernel), rfl⟩
theorem kl_1813 : zW (.constantLong "GlassPalaceLaw" 193 (4294967295)) := ⟨List.mem_of_getElem? (i := 1813) (by decide +kernel), rfl⟩
theorem mw_X11_pass : MW yX11_pass cX11_pass 2 (some .int) 1 := ⟨kl_411, k_103, by decide, by decide, by decide +kernel⟩
theorem mv_X11_pass : zW (.instanceMethod yX11_pass) ∧ Cond.selects (yX11_pass).cls yX11_pass yX11_pass ∈ ztb := ⟨kl_409, (kl_410).mem⟩
theorem mw_X12_pass : MW yX12_pass cX12_pass 3 (some .int) 1 := ⟨kl_1397, k_113, by decide, by decide, by decide +kernel⟩
theorem mv_X12_pass : zW (.instanceMethod yX12_pass) ∧ Cond.selects (yX12_pass).cls yX12_pass yX12_pass ∈ ztb := ⟨kl_1395, (kl_1396).mem⟩
theorem mw_X11_bay : MW yX11_bay cX11_bay 6 (some .int) 3 := ⟨kl_415, k_103, by decide, by decide, by decide +kernel⟩
theorem mv_X11_bay : zW (.instanceMethod yX11_bay) ∧ Cond.selects (yX11_bay).cls yX11_bay yX11_bay ∈ ztb := ⟨kl_413, (kl_414).mem⟩
theorem mw_X12_bay : MW yX12_bay cX12_bay 5 (some .int) 3 := ⟨kl_1405, k_113, by decide, by decide, by decide +kernel⟩
theorem mv_X12_bay : zW (.instanceMethod yX12_bay) ∧ Cond.selects (yX12_bay).cls yX12_bay yX12_bay ∈ ztb := ⟨kl_1403, (kl_1404).mem⟩
theorem mw_X11_foundry : MW yX11_foundry cX11_foundry 4 (some .int) 3 := ⟨kl_438, k_103, by decide, by decide, by decide +kernel⟩
theorem mv_X11_foundry : zW (.instanceMethod yX11_foundry) ∧ Cond.selects (yX11_foundry).cls yX11_foundry yX11_foundry ∈ ztb := ⟨kl_436, (kl_437).mem⟩
theorem mw_X12_foundry : MW yX12_foundry cX12_foundry 4 (some .int) 3 := ⟨kl_1421, k_113, by decide, by decide, by decide +kernel⟩
theorem mv_X12_foundry : zW (.instanceMethod yX12_foundry) ∧ Cond.selects (yX12_foundry).cls yX12_foundry yX12_foundry ∈ ztb := ⟨kl_1419, (kl_1420).mem⟩
theorem mw_X11_order : MW yX11_order cX11_order 5 (some .int) 4 := ⟨kl_445, k_103, by decide, by decide, by decide +kernel⟩
theorem mv_X11_order : zW (.instanceMethod yX11_order) ∧ Cond.selects (yX11_order).cls yX11_order yX11_order ∈ ztb := ⟨kl_443, (kl_444).mem⟩
theorem mw_X12_order : MW yX12_order cX12_order 5 (some .int) 4 := ⟨kl_1429, k_113, by decide, by decide, by decide +kernel⟩
theorem mv_X12_order : zW (.instanceMethod yX12_order) ∧ Cond.selects (yX12_order).cls yX12_order yX12_order ∈ ztb := ⟨kl_1427, (kl_1428).mem⟩
theorem mw_X11_come : MW yX11_come cX11_come 4 (some .int) 2 := ⟨kl_511, k_103, by decide, by decide, by decide +kernel⟩
theorem mv_X11_come : zW (.instanceMethod yX11_come) ∧ Cond.selects (yX11_come).cls yX11_come yX11_come ∈ ztb := ⟨kl_509, (kl_510).mem⟩
theorem mw_X12_come : MW yX12_come cX12_come 3 (some .int) 2 := ⟨kl_1433, k_113, by decide, by decide, by decide +kernel⟩
theorem mv_X12_come : zW (.instanceMethod yX12_come) ∧ Cond.selects (yX12_come).cls yX12_come yX12_come ∈ ztb := ⟨kl_1431, (kl_1432).mem⟩
theorem mw_X11_of : MW yX11_of cX11_of 4 (some .int) 2 := ⟨kl_523, k_103, by decide, by decide, by decide +kernel⟩
theorem mv_X11_of : zW (.instanceMethod yX11_of) ∧ Cond.selects (yX11_of).cls yX11_of yX11_of ∈ ztb := ⟨kl_521, (kl_522).mem⟩
theorem mw_X12_of : MW yX12_of cX12_of 3 (some .int) 2 := ⟨kl_1441, k_113, by decide, by decide, by decide +kernel⟩
theorem mv_X12_of : zW (.instanceMethod yX12_of) ∧ Cond.selects (yX12_of).cls yX12_of yX12_of ∈ ztb := ⟨kl_1439, (kl_1440).mem⟩
theorem mw_X11_tried : MW yX11_tried cX11_tried 4 (some .int) 2 := ⟨kl_580, k_103, by decide, by decide, by decide +kernel⟩
theorem mv_X11_tried : zW (.instanceMethod yX11_tried) ∧ Cond.selects (yX11_tried).cls yX11_tried yX11_tried ∈ ztb := ⟨kl_578, (kl_579).mem⟩
theorem mw_X12_tried : MW yX12_tried cX12_tried 3 (some .int) 2 := ⟨kl_1516, k_113, by decide, by decide, by decide +kernel⟩
theorem mv_X12_tried : zW (.instanceMethod yX12_tried) ∧ Cond.selects (yX12_tried).cls yX12_tried yX12_tried ∈ ztb := ⟨kl_1514, (kl_1515).mem⟩
theorem mw_X11_sell : MW yX11_sell cX11_sell 4 (some .int) 2 := ⟨kl_584, k_103, by decide, by decide, by decide +kernel⟩
theorem mv_X11_sell : zW (.instanceMethod yX11_sell) ∧ Cond.selects (yX11_sell).cls yX11_sell yX11_sell ∈ ztb := ⟨kl_582, (kl_583).mem⟩
theorem mw_X12_sell : MW yX12_sell cX12_sell 3 (some .int) 2 := ⟨kl_1520, k_113, by decide, by decide, by decide +kernel⟩
theorem mv_X12_sell : zW (.instanceMethod yX12_sell) ∧ Cond.selects (yX12_sell).cls yX12_sell yX12_sell ∈ ztb := ⟨kl_1518, (kl_1519).mem⟩
theorem mw_X11_wants : MW yX11_wants cX11_wants 3 (some .int) 1 := ⟨kl_588, k_103, by decide, by decide, by decide +kernel⟩
theorem mv_X11_wants : zW (.instanceMethod yX11_wants) ∧ Cond.selects (yX11_wants).cls yX11_wants yX11_wants ∈ ztb := ⟨kl_586, (kl_587).mem⟩
theorem mw_X12_wants : MW yX12_wants cX12_wants 2 (some .int) 1 := ⟨kl_1524, k_113, by decide, by decide, by decide +kernel⟩
theorem mv_X12_wants : zW (.instanceMethod yX12_wants) ∧ Cond.selects (yX12_wants).cls yX12_wants yX12_wants ∈ ztb := ⟨kl_1522, (kl_1523).mem⟩
theorem mw_X11_fit : MW yX11_fit cX11_fit 5 (some .int) 2 := ⟨kl_596, k_103, by decide, by decide, by decide +kernel⟩
theorem mv_X11_fit : zW (.instanceMethod yX11_fit) ∧ Cond.selects (yX11_fit).cls yX11_fit yX11_fit ∈ ztb := ⟨kl_594, (kl_595).mem⟩
theorem mw_X12_fit : MW yX12_fit cX12_fit 3 (some .int) 2 := ⟨kl_1532, k_113, by decide, by decide, by decide +kernel⟩
theorem mv_X12_fit : zW (.instanceMethod yX12_fit) ∧ Cond.selects (yX12_fit).cls yX12_fit yX12_fit ∈ ztb := ⟨kl_1530, (kl_1531).mem⟩
theorem mw_X11_set : MW yX11_set cX11_set 5 (some .int) 2 := ⟨kl_629, k_103, by decide, by decide, by decide +kernel⟩
theorem mv_X11_set : zW (.instanceMethod yX11_set) ∧ Cond.selects (yX11_set).cls yX11_set yX11_set ∈ ztb := ⟨kl_627, (kl_628).mem⟩
theorem mw_X12_set : MW yX12_set cX12_set 3 (some .int) 2 := ⟨kl_1544, k_113, by decide, by decide, by decide +kernel⟩
theorem mv_X12_set : zW (.instanceMethod yX12_set) ∧ Cond.selects (yX12_set).cls yX12_set yX12_set ∈ ztb := ⟨kl_1542, (kl_1543).mem⟩
theorem mw_X11_at : MW yX11_at cX11_at 5 (some .int) 2 := ⟨kl_639, k_103, by decide, by decide, by decide +kernel⟩
theorem mv_X11_at : zW (.instanceMethod yX11_at) ∧ Cond.selects (yX11_at).cls yX11_at yX11_at ∈ ztb := ⟨kl_637, (kl_638).mem⟩
theorem mw_X12_at : MW yX12_at cX12_at 3 (some .int) 2 := ⟨kl_1552, k_113, by decide, by decide, by decide +kernel⟩
theorem mv_X12_at : zW (.instanceMethod yX12_at) ∧ Cond.selects (yX12_at).cls yX12_at yX12_at ∈ ztb := ⟨kl_1550, (kl_1551).mem⟩
theorem mw_X11_down : MW yX11_down cX11_down 5 (some .int) 2 := ⟨kl_647, k_103, by decide, by decide, by decide +kernel⟩
theorem mv_X11_down : zW (.instanceMethod yX11_down) ∧ Cond.selects (yX11_down).cls yX11_down yX11_down ∈ ztb := ⟨kl_645, (kl_646).mem⟩
theorem mw_X12_down : MW yX12_down cX12_down 4 (some .int) 2 := ⟨kl_1560, k_113, by decide, by decide, by decide +kernel⟩
theorem mv_X12_down : zW (.instanceMethod yX12_down) ∧ Cond.selects (yX12_down).cls yX12_down yX12_down ∈ ztb := ⟨kl_1558, (kl_1559).mem⟩
theorem mw_X11_cut : MW yX11_cut cX11_cut 4 (some .int) 1 := ⟨kl_663, k_103, by decide, by decide, by decide +kernel⟩
theorem mv_X11_cut : zW (.instanceMethod yX11_cut) ∧ Cond.selects (yX11_cut).cls yX11_cut yX11_cut ∈ ztb := ⟨kl_661, (kl_662).mem⟩
theorem mw_X12_cut : MW yX12_cut cX12_cut 3 (some .int) 1 := ⟨kl_1564, k_113, by decide, by decide, by decide +kernel⟩
theorem mv_X12_cut : zW (.instanceMethod yX12_cut) ∧ Cond.selects (yX12_cut).cls yX12_cut yX12_cut ∈ ztb := ⟨kl_1562, (kl_1563).mem⟩
theorem mw_X11_feed : MW yX11_feed cX11_feed 4 (some .int) 2 := ⟨kl_676, k_103, by decide, by decide, by decide +kernel⟩
theorem mv_X11_feed : zW (.instanceMethod yX11_feed) ∧ Cond.selects (yX11_feed).cls yX11_feed yX11_feed ∈ ztb := ⟨kl_674, (kl_675).mem⟩
theorem mw_X12_feed : MW yX12_feed cX12_feed 4 (some .int) 2 := ⟨kl_1572, k_113, by decide, by decide, by decide +kernel⟩
theorem mv_X12_feed : zW (.instanceMethod yX12_feed) ∧ Cond.selects (yX12_feed).cls yX12_feed yX12_feed ∈ ztb := ⟨kl_1570, (kl_1571).mem⟩
theorem mw_X11_law : MW yX11_law cX11_law 4 (some .int) 1 := ⟨kl_684, k_103, by decide, by decide, by decide +kernel⟩
theorem mv_X11_law : zW (.instanceMethod yX11_law) ∧ Cond.selects (yX11_law).cls yX11_law yX11_law ∈ ztb := ⟨kl_682, (kl_683).mem⟩
theorem mw_X12_law : MW yX12_law cX12_law 3 (some .int) 1 := ⟨kl_1576, k_113, by decide, by decide, by decide +kernel⟩
theorem mv_X12_law : zW (.instanceMethod yX12_law) ∧ Cond.selects (yX12_law).cls yX12_law yX12_law ∈ ztb := ⟨kl_1574, (kl_1575).mem⟩
theorem mw_X11_force : MW yX11_force cX11_force 5 (some .int) 3 := ⟨kl_811, k_103, by decide, by decide, by decide +kernel⟩
theorem mv_X11_force : zW (.instanceMethod yX11_force) ∧ Cond.selects (yX11_force).cls yX11_force yX11_force ∈ ztb := ⟨kl_809, (kl_810).mem⟩
theorem mw_X12_force : MW yX12_force cX12_force 4 (some .int) 3 := ⟨kl_1584, k_113, by decide, by decide, by decide +kernel⟩
theorem mv_X12_force : zW (.instanceMethod yX12_force) ∧ Cond.selects (yX12_force).cls yX12_force yX12_force ∈ ztb := ⟨kl_1582, (kl_1583).mem⟩
theorem mw_X11_why : MW yX11_why cX11_why 5 (some .int) 2 := ⟨kl_818, k_103, by decide, by decide, by decide +kernel⟩
theorem mv_X11_why : zW (.instanceMethod yX11_why) ∧ Cond.selects (yX11_why).cls yX11_why yX11_why ∈ ztb := ⟨kl_816, (kl_817).mem⟩
theorem mw_X12_why : MW yX12_why cX12_why 4 (some .int) 2 := ⟨kl_1588, k_113, by decide, by decide, by decide +kernel⟩
theorem mv_X12_why : zW (.instanceMethod yX12_why) ∧ Cond.selects (yX12_why).cls yX12_why yX12_why ∈ ztb := ⟨kl_1586, (kl_1587).mem⟩
theorem mw_X11_people : MW yX11_people cX11_people 5 (some .int) 2 := ⟨kl_825, k_103, by decide, by decide, by decide +kernel⟩
theorem mv_X11_people : zW (.instanceMethod yX11_people) ∧ Cond.selects (yX11_people).cls yX11_people yX11_people ∈ ztb := ⟨kl_823, (kl_824).mem⟩
theorem mw_X12_people : MW yX12_people cX12_people 4 (some .int) 2 := ⟨kl_1592, k_113, by decide, by decide, by decide +kernel⟩
theorem mv_X12_people : zW (.instanceMethod yX12_people) ∧ Cond.selects (yX12_people).cls yX12_people yX12_people ∈ ztb := ⟨kl_1590, (kl_1591).mem⟩
theorem mw_X11_bears : MW yX11_bears cX11_bears 5 (some .int) 2 := ⟨kl_829, k_103, by decide, by decide, by decide +kernel⟩
theorem mv_X11_bears : zW (.instanceMethod yX11_bears) ∧ Cond.selects (yX11_bears).cls yX11_bears yX11_bears ∈ ztb := ⟨kl_827, (kl_828).mem⟩
theorem mw_X12_bears : MW yX12_bears cX12_bears 3 (some .int) 2 := ⟨kl_1596, k_113, by decide, by decide, by decide +kernel⟩
theorem mv_X12_bears : zW (.instanceMethod yX12_bears) ∧ Cond.selects (yX12_bears).cls yX12_bears yX12_bears ∈ ztb := ⟨kl_1594, (kl_1595).mem⟩
theorem mw_X11_breaks : MW yX11_breaks cX11_breaks 6 (some .int) 0 := ⟨kl_849, k_103, by decide, by decide, by decide +kernel⟩
theorem mv_X11_breaks : zW (.instanceMethod yX11_breaks) ∧ Cond.selects (yX11_breaks).cls yX11_breaks yX11_breaks ∈ ztb := ⟨kl_847, (kl_848).mem⟩
theorem mw_X12_breaks : MW yX12_breaks cX12_breaks 3 (some .int) 0 := ⟨kl_1616, k_113, by decide, by decide, by decide +kernel⟩
theorem mv_X12_breaks : zW (.instanceMethod yX12_breaks) ∧ Cond.selects (yX12_breaks).cls yX12_breaks yX12_breaks ∈ ztb := ⟨kl_1614, (kl_1615).mem⟩
theorem mw_X11_rain : MW yX11_rain cX11_rain 4 (some .int) 2 := ⟨kl_853, k_103, by decide, by decide, by decide +kernel⟩
theorem mv_X11_rain : zW (.instanceMethod yX11_rain) ∧ Cond.selects (yX11_rain).cls yX11_rain yX11_rain ∈ ztb := ⟨kl_851, (kl_852).mem⟩
theorem mw_X12_rain : MW yX12_rain cX12_rain 4 (some .int) 2 := ⟨kl_1620, k_113, by decide, by decide, by decide +kernel⟩
theorem mv_X12_rain : zW (.instanceMethod yX12_rain) ∧ Cond.selects (yX12_rain).cls yX12_rain yX12_rain ∈ ztb := ⟨kl_1618, (kl_1619).mem⟩
theorem mw_X11_leads : MW yX11_leads cX11_leads 5 (some .int) 2 := ⟨kl_860, k_103, by decide, by decide, by decide +kernel⟩
theorem mv_X11_leads : zW (.instanceMethod yX11_leads) ∧ Cond.selects (yX11_leads).cls yX11_leads yX11_leads ∈ ztb := ⟨kl_858, (kl_859).mem⟩
theorem mw_X12_leads : MW yX12_leads cX12_leads 3 (some .int) 2 := ⟨kl_1624, k_113, by decide, by decide, by decide +kernel⟩
theorem mv_X12_leads : zW (.instanceMethod yX12_leads) ∧ Cond.selects (yX12_leads).cls yX12_leads yX12_leads ∈ ztb := ⟨kl_1622, (kl_1623).mem⟩
theorem mw_X11_stands : MW yX11_stands cX11_stands 3 (some .int) 2 := ⟨kl_870, k_103, by decide, by decide, by decide +kernel⟩
theorem mv_X11_stands : zW (.instanceMethod yX11_stands) ∧ Cond.selects (yX11_stands).cls yX11_stands yX11_stands ∈ ztb := ⟨kl_868, (kl_869).mem⟩
theorem mw_X12_stands : MW yX12_stands cX12_stands 3 (some .int) 2 := ⟨kl_1636, k_113, by decide, by decide, by decide +kernel⟩
theorem mv_X12_stands : zW (.instanceMethod yX12_stands) ∧ Cond.selects (yX12_stands).cls yX12_stands yX12_stands ∈ ztb := ⟨kl_1634, (kl_1635).mem⟩
theorem mw_X11_leaks : MW yX11_leaks cX11_leaks 2 (some .int) 1 := ⟨kl_891, k_103, by decide, by decide, by decide +kernel⟩
theorem mv_X11_leaks : zW (.instanceMethod yX11_leaks) ∧ Cond.selects (yX11_leaks).cls yX11_leaks yX11_leaks ∈ ztb := ⟨kl_889, (kl_890).mem⟩
theorem mw_X12_leaks : MW yX12_leaks cX12_leaks 4 (some .int) 1 := ⟨kl_1644, k_113, by decide, by decide, by decide +kernel⟩
theorem mv_X12_leaks : zW (.instanceMethod yX12_leaks) ∧ Cond.selects (yX12_leaks).cls yX12_leaks yX12_leaks ∈ ztb := ⟨kl_1642, (kl_1643).mem⟩
theorem mw_X11_gang : MW yX11_gang cX11_gang 3 (some .int) 2 := ⟨kl_899, k_103, by decide, by decide, by decide +kernel⟩
theorem mv_X11_gang : zW (.instanceMethod yX11_gang) ∧ Cond.selects (yX11_gang).cls yX11_gang yX11_gang ∈ ztb := ⟨kl_897, (kl_898).mem⟩
theorem mw_X12_gang : MW yX12_gang cX12_gang 3 (some .int) 2 := ⟨kl_1648, k_113, by decide, by decide, by decide +kernel⟩
theorem mv_X12_gang : zW (.instanceMethod yX12_gang) ∧ Cond.selects (yX12_gang).cls yX12_gang yX12_gang ∈ ztb := ⟨kl_1646, (kl_1647).mem⟩
theorem mw_X11_work : MW yX11_work cX11_work 10 (some .int) 3 := ⟨kl_927, k_103, by decide, by decide, by decide +kernel⟩
theorem mv_X11_work : zW (.instanceMethod yX11_work) ∧ Cond.selects (yX11_work).cls yX11_work yX11_work ∈ ztb := ⟨kl_925, (kl_926).mem⟩
theorem mw_X12_work : MW yX12_work cX12_work 7 (some .int) 3 := ⟨kl_1664, k_113, by decide, by decide, by decide +kernel⟩
theorem mv_X12_work : zW (.instanceMethod yX12_work) ∧ Cond.selects (yX12_work).cls yX12_work yX12_work ∈ ztb := ⟨kl_1662, (kl_1663).mem⟩
theorem mw_X11_pace : MW yX11_pace cX11_pace 3 (some .int) 1 := ⟨kl_949, k_103, by decide, by decide, by decide +kernel⟩
theorem mv_X11_pace : zW (.instanceMethod yX11_pace) ∧ Cond.selects (yX11_pace).cls yX11_pace yX11_pace ∈ ztb := ⟨kl_947, (kl_948).mem⟩
theorem mw_X12_pace : MW yX12_pace cX12_pace 2 (some .int) 1 := ⟨kl_1652, k_113, by decide, by decide, by decide +kernel⟩
theorem mv_X12_pace : zW (.instanceMethod yX12_pace) ∧ Cond.selects (yX12_pace).cls yX12_pace yX12_pace ∈ ztb := ⟨kl_1650, (kl_1651).mem⟩
theorem mw_X11_want : MW yX11_want cX11_want 4 (some .int) 3 := ⟨kl_953, k_103, by decide, by decide, by decide +kernel⟩
theorem mv_X11_want : zW (.instanceMethod yX11_want) ∧ Cond.selects (yX11_want).cls yX11_want yX11_want ∈ ztb := ⟨kl_951, (kl_952).mem⟩
theorem mw_X12_want : MW yX12_want cX12_want 4 (some .int) 3 := ⟨kl_1668, k_113, by decide, by decide, by decide +kernel⟩
theorem mv_X12_want : zW (.instanceMethod yX12_want) ∧ Cond.selects (yX12_want).cls yX12_want yX12_want ∈ ztb := ⟨kl_1666, (kl_1667).mem⟩
theorem mw_X11_ahead : MW yX11_ahead cX11_ahead 4 (some .int) 3 := ⟨kl_961, k_103, by decide, by decide, by decide +kernel⟩
theorem mv_X11_ahead : zW (.instanceMethod yX11_ahead) ∧ Cond.selects (yX11_ahead).cls yX11_ahead yX11_ahead ∈ ztb := ⟨kl_959, (kl_960).mem⟩
theorem mw_X12_ahead : MW yX12_ahead cX12_ahead 4 (some .int) 3 := ⟨kl_1676, k_113, by decide, by decide, by decide +kernel⟩
theorem mv_X12_ahead : zW (.instanceMethod yX12_ahead) ∧ Cond.selects (yX12_ahead).cls yX12_ahead yX12_ahead ∈ ztb := ⟨kl_1674, (kl_1675).mem⟩
theorem mw_X11_lack : MW yX11_lack cX11_lack 5 (some .int) 3 := ⟨kl_973, k_103, by decide, by decide, by decide +kernel⟩
theorem mv_X11_lack : zW (.instanceMethod yX11_lack) ∧ Cond.selects (yX11_lack).cls yX11_lack yX11_lack ∈ ztb := ⟨kl_971, (kl_972).mem⟩
theorem mw_X12_lack : MW yX12_lack cX12_lack 5 (some .int) 3 := ⟨kl_1684, k_113, by decide, by decide, by decide +kernel⟩
theorem mv_X12_lack : zW (.instanceMethod yX12_lack) ∧ Cond.selects (yX12_lack).cls yX12_lack yX12_lack ∈ ztb := ⟨kl_1682, (kl_1683).mem⟩
theorem mw_X11_more : MW yX11_more cX11_more 5 (some .int) 4 := ⟨kl_997, k_103, by decide, by decide, by decide +kernel⟩
theorem mv_X11_more : zW (.instanceMethod yX11_more) ∧ Cond.selects (yX11_more).cls yX11_more yX11_more ∈ ztb := ⟨kl_995, (kl_996).mem⟩
theorem mw_X12_more : MW yX12_more cX12_more 5 (some .int) 4 := ⟨kl_1696, k_113, by decide, by decide, by decide +kernel⟩
theorem mv_X12_more : zW (.instanceMethod yX12_more) ∧ Cond.selects (yX12_more).cls yX12_more yX12_more ∈ ztb := ⟨kl_1694, (kl_1695).mem⟩
theorem mw_X11_best : MW yX11_best cX11_best 1 (some .int) 0 := ⟨kl_1005, k_103, by decide, by decide, by decide +kernel⟩
theorem mv_X11_best : zW (.instanceMethod yX11_best) ∧ Cond.selects (yX11_best).cls yX11_best yX11_best ∈ ztb := ⟨kl_1003, (kl_1004).mem⟩
theorem mw_X12_best : MW yX12_best cX12_best 8 (some .int) 0 := ⟨kl_1700, k_113, by decide, by decide, by decide +kernel⟩
theorem mv_X12_best : zW (.instanceMethod yX12_best) ∧ Cond.selects (yX12_best).cls yX12_best yX12_best ∈ ztb := ⟨kl_1698, (kl_1699).mem⟩
theorem mw_X11_let : MW yX11_let cX11_let 3 (some .int) 2 := ⟨kl_1024, k_103, by decide, by decide, by decide +kernel⟩
theorem mv_X11_let : zW (.instanceMethod yX11_let) ∧ Cond.selects (yX11_let).cls yX11_let yX11_let ∈ ztb := ⟨kl_1022, (kl_1023).mem⟩
theorem mw_X12_let : MW yX12_let cX12_let 8 (some .int) 2 := ⟨kl_1704, k_113, by decide, by decide, by decide +kernel⟩
theorem mv_X12_let : zW (.instanceMethod yX12_let) ∧ Cond.selects (yX12_let).cls yX12_let yX12_let ∈ ztb := ⟨kl_1702, (kl_1703).mem⟩
theorem mw_X11_nation : MW yX11_nation cX11_nation 3 (some .int) 2 := ⟨kl_1047, k_103, by decide, by decide, by decide +kernel⟩
theorem mv_X11_nation : zW (.instanceMethod yX11_nation) ∧ Cond.selects (yX11_nation).cls yX11_nation yX11_nation ∈ ztb := ⟨kl_1045, (kl_1046).mem⟩
theorem mw_X12_nation : MW yX12_nation cX12_nation 3 (some .int) 2 := ⟨kl_1712, k_113, by decide, by decide, by decide +kernel⟩
theorem mv_X12_nation : zW (.instanceMethod yX12_nation) ∧ Cond.selects (yX12_nation).cls yX12_nation yX12_nation ∈ ztb := ⟨kl_1710, (kl_1711).mem⟩
theorem mw_X11_unbuild : MW yX11_unbuild cX11_unbuild 8 (some .int) 1 := ⟨kl_1051, k_103, by decide, by decide, by decide +kernel⟩
theorem mv_X11_unbuild : zW (.instanceMethod yX11_unbuild) ∧ Cond.selects (yX11_unbuild).cls yX11_unbuild yX11_unbuild ∈ ztb := ⟨kl_1049, (kl_1050).mem⟩
theorem mw_X12_unbuild : MW yX12_unbuild cX12_unbuild 5 (some .int) 1 := ⟨kl_1716, k_113, by decide, by decide, by decide +kernel⟩
theorem mv_X12_unbuild : zW (.instanceMethod yX12_unbuild) ∧ Cond.selects (yX12_unbuild).cls yX12_unbuild yX12_unbuild ∈ ztb := ⟨kl_1714, (kl_1715).mem⟩
theorem mw_X11_known : MW yX11_known cX11_known 8 (some .int) 2 := ⟨kl_1055, k_103, by decide, by decide, by decide +kernel⟩
theorem mv_X11_known : zW (.instanceMethod yX11_known) ∧ Cond.selects (yX11_known).cls yX11_known yX11_known ∈ ztb := ⟨kl_1053, (kl_1054).mem⟩
theorem mw_X12_known : MW yX12_known cX12_known 5 (some .int) 2 := ⟨kl_1728, k_113, by decide, by decide, by decide +kernel⟩
theorem mv_X12_known : zW (.instanceMethod yX12_known) ∧ Cond.selects (yX12_known).cls yX12_known yX12_known ∈ ztb := ⟨kl_1726, (kl_1727).mem⟩
theorem mw_X11_act : MW yX11_act cX11_act 5 (some .int) 3 := ⟨kl_1059, k_103, by decide, by decide, by decide +kernel⟩
theorem mv_X11_act : zW (.instanceMethod yX11_act) ∧ Cond.selects (yX11_act).cls yX11_act yX11_act ∈ ztb := ⟨kl_1057, (kl_1058).mem⟩
theorem mw_X12_act : MW yX12_act cX12_act 4 (some .int) 3 := ⟨kl_1732, k_113, by decide, by decide, by decide +kernel⟩
theorem mv_X12_act : zW (.instanceMethod yX12_act) ∧ Cond.selects (yX12_act).cls yX12_act yX12_act ∈ ztb := ⟨kl_1730, (kl_1731).mem⟩
theorem mw_X11_trace : MW yX11_trace cX11_trace 2 (some .int) 1 := ⟨kl_1083, k_103, by decide, by decide, by decide +kernel⟩
theorem mv_X11_trace : zW (.instanceMethod yX11_trace) ∧ Cond.selects (yX11_trace).cls yX11_trace yX11_trace ∈ ztb := ⟨kl_1081, (kl_1082).mem⟩
theorem mw_X12_trace : MW yX12_trace cX12_trace 2 (some .int) 1 := ⟨kl_1768, k_113, by decide, by decide, by decide +kernel⟩
theorem mv_X12_trace : zW (.instanceMethod yX12_trace) ∧ Cond.selects (yX12_trace).cls yX12_trace yX12_trace ∈ ztb := ⟨kl_1766, (kl_1767).mem⟩
theorem mw_X11_taken : MW yX11_taken cX11_taken 4 (some .int) 2 := ⟨kl_1091, k_103, by decide, by decide, by decide +kernel⟩
theorem mv_X11_taken : zW (.instanceMethod yX11_taken) ∧ Cond.selects (yX11_taken).cls yX11_taken yX11_taken ∈ ztb := ⟨kl_1089, (kl_1090).mem⟩
theorem mw_X12_taken : MW yX12_taken cX12_taken 3 (some .int) 2 := ⟨kl_1772, k_113, by decide, by decide, by decide +kernel⟩
theorem mv_X12_taken : zW (.instanceMethod yX12_taken) ∧ Cond.selects (yX12_taken).cls yX12_taken yX12_taken ∈ ztb := ⟨kl_1770, (kl_1771).mem⟩
theorem mw_X11_list : MW yX11_list cX11_list 10 (some .long) 3 := ⟨kl_1099, k_103, by decide, by decide, by decide +kernel⟩
theorem mv_X11_list : zW (.instanceMethod yX11_list) ∧ Cond.selects (yX11_list).cls yX11_list yX11_list ∈ ztb := ⟨kl_1097, (kl_1098).mem⟩
theorem mw_X12_list : MW yX12_list cX12_list 9 (some .long) 3 := ⟨kl_1784, k_113, by decide, by decide, by decide +kernel⟩
theorem mv_X12_list : zW (.instanceMethod yX12_list) ∧ Cond.selects (yX12_list).cls yX12_list yX12_list ∈ ztb := ⟨kl_1782, (kl_1783).mem⟩
theorem mw_X11_count : MW yX11_count cX11_count 2 (some .int) 1 := ⟨kl_1126, k_103, by decide, by decide, by decide +kernel⟩
theorem mv_X11_count : zW (.instanceMethod yX11_count) ∧ Cond.selects (yX11_count).cls yX11_count yX11_count ∈ ztb := ⟨kl_1124, (kl_1125).mem⟩
theorem mw_X12_count : MW yX12_count cX12_count 2 (some .int) 1 := ⟨kl_1776, k_113, by decide, by decide, by decide +kernel⟩
theorem mv_X12_count : zW (.instanceMethod yX12_count) ∧ Cond.selects (yX12_count).cls yX12_count yX12_count ∈ ztb := ⟨kl_1774, (kl_1775).mem⟩
theorem mw_X11_tape : MW yX11_tape cX11_tape 5 (some .int) 3 := ⟨kl_1138, k_103, by decide, by decide, by decide +kernel⟩
theorem mv_X11_tape : zW (.instanceMethod yX11_tape) ∧ Cond.selects (yX11_tape).cls yX11_tape yX11_tape ∈ ztb := ⟨kl_1136, (kl_1137).mem⟩
theorem mw_X12_tape : MW yX12_tape cX12_tape 5 (some .int) 3 := ⟨kl_1796, k_113, by decide, by decide, by decide +kernel⟩
theorem mv_X12_tape : zW (.instanceMethod yX12_tape) ∧ Cond.selects (yX12_tape).cls yX12_tape yX12_tape ∈ ztb := ⟨kl_1794, (kl_1795).mem⟩
theorem mw_X11_item : MW yX11_item cX11_item 6 (some .int) 3 := ⟨kl_1146, k_103, by decide, by decide, by decide +kernel⟩
theorem mv_X11_item : zW (.instanceMethod yX11_item) ∧ Cond.selects (yX11_item).cls yX11_item yX11_item ∈ ztb := ⟨kl_1144, (kl_1145).mem⟩
theorem mw_X12_item : MW yX12_item cX12_item 5 (some .int) 3 := ⟨kl_1800, k_113, by decide, by decide, by decide +kernel⟩
theorem mv_X12_item : zW (.instanceMethod yX12_item) ∧ Cond.selects (yX12_item).cls yX12_item yX12_item ∈ ztb := ⟨kl_1798, (kl_1799).mem⟩
theorem mw_X11_read : MW yX11_read cX11_read 4 (some .long) 2 := ⟨kl_1158, k_103, by decide, by decide, by decide +kernel⟩
theorem mv_X11_read : zW (.instanceMethod yX11_read) ∧ Cond.selects (yX11_read).cls yX11_read yX11_read ∈ ztb := ⟨kl_1156, (kl_1157).mem⟩
theorem mw_X12_read : MW yX12_read cX12_read 3 (some .long) 2 := ⟨kl_1808, k_113, by decide, by decide, by decide +kernel⟩
theorem mv_X12_read : zW (.instanceMethod yX12_read) ∧ Cond.selects (yX12_read).cls yX12_read yX12_read ∈ ztb := ⟨kl_1806, (kl_1807).mem⟩
theorem mw_X11_shift : MW yX11_shift cX11_shift 8 (some .int) 5 := ⟨kl_1162, k_103, by decide, by decide, by decide +kernel⟩
theorem mv_X11_shift : zW (.instanceMethod yX11_shift) ∧ Cond.selects (yX11_shift).cls yX11_shift yX11_shift ∈ ztb := ⟨kl_1160, (kl_1161).mem⟩
theorem mw_X12_shift : MW yX12_shift cX12_shift 7 (some .int) 5 := ⟨kl_1812, k_113, by decide, by decide, by decide +kernel⟩
theorem mv_X12_shift : zW (.instanceMethod yX12_shift) ∧ Cond.selects (yX12_shift).cls yX12_shift yX12_shift ∈ ztb := ⟨kl_1810, (kl_1811).mem⟩
