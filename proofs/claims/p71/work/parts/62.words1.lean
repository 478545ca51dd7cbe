theorem dL_law_720 : decode cL_law 720 = .ok (.aload_n 1, 1) := by decide +kernel
theorem dL_law_721 : decode cL_law 721 = .ok (.aload_n 0, 1) := by decide +kernel
theorem dL_law_722 : decode cL_law 722 = .ok (.iload_n 3, 1) := by decide +kernel
theorem dL_law_723 : decode cL_law 723 = .ok (.iconst 1, 1) := by decide +kernel
theorem dL_law_724 : decode cL_law 724 = .ok (.iadd, 1) := by decide +kernel
theorem dL_law_725 : decode cL_law 725 = .ok (.iaload, 1) := by decide +kernel
theorem dL_law_726 : decode cL_law 726 = .ok (.aload_n 0, 1) := by decide +kernel
theorem dL_law_727 : decode cL_law 727 = .ok (.iload_n 3, 1) := by decide +kernel
theorem dL_law_728 : decode cL_law 728 = .ok (.iconst 2, 1) := by decide +kernel
theorem dL_law_729 : decode cL_law 729 = .ok (.iadd, 1) := by decide +kernel
theorem dL_law_730 : decode cL_law 730 = .ok (.iaload, 1) := by decide +kernel
theorem dL_law_731 : decode cL_law 731 = .ok (.invokevirtual 73, 3) := by decide +kernel
theorem dL_law_734 : decode cL_law 734 = .ok (.pop, 1) := by decide +kernel
theorem dL_law_735 : decode cL_law 735 = .ok (.aload_n 2, 1) := by decide +kernel
theorem dL_law_736 : decode cL_law 736 = .ok (.aload_n 0, 1) := by decide +kernel
theorem dL_law_737 : decode cL_law 737 = .ok (.iload_n 3, 1) := by decide +kernel
theorem dL_law_738 : decode cL_law 738 = .ok (.iconst 1, 1) := by decide +kernel
theorem dL_law_739 : decode cL_law 739 = .ok (.iadd, 1) := by decide +kernel
theorem dL_law_740 : decode cL_law 740 = .ok (.iaload, 1) := by decide +kernel
theorem dL_law_741 : decode cL_law 741 = .ok (.aload_n 0, 1) := by decide +kernel
theorem dL_law_742 : decode cL_law 742 = .ok (.iload_n 3, 1) := by decide +kernel
theorem dL_law_743 : decode cL_law 743 = .ok (.iconst 2, 1) := by decide +kernel
theorem dL_law_744 : decode cL_law 744 = .ok (.iadd, 1) := by decide +kernel
theorem dL_law_745 : decode cL_law 745 = .ok (.iaload, 1) := by decide +kernel
theorem dL_law_746 : decode cL_law 746 = .ok (.invokevirtual 76, 3) := by decide +kernel
theorem dL_law_749 : decode cL_law 749 = .ok (.pop, 1) := by decide +kernel
theorem dL_law_750 : decode cL_law 750 = .ok (.goto 1368, 3) := by decide +kernel
theorem dL_law_753 : decode cL_law 753 = .ok (.aload_n 1, 1) := by decide +kernel
theorem dL_law_754 : decode cL_law 754 = .ok (.aload_n 0, 1) := by decide +kernel
theorem dL_law_755 : decode cL_law 755 = .ok (.iload_n 3, 1) := by decide +kernel
theorem dL_law_756 : decode cL_law 756 = .ok (.iconst 1, 1) := by decide +kernel
theorem dL_law_757 : decode cL_law 757 = .ok (.iadd, 1) := by decide +kernel
theorem dL_law_758 : decode cL_law 758 = .ok (.iaload, 1) := by decide +kernel
theorem dL_law_759 : decode cL_law 759 = .ok (.invokevirtual 77, 3) := by decide +kernel
theorem dL_law_762 : decode cL_law 762 = .ok (.pop, 1) := by decide +kernel
theorem dL_law_763 : decode cL_law 763 = .ok (.aload_n 2, 1) := by decide +kernel
theorem dL_law_764 : decode cL_law 764 = .ok (.aload_n 0, 1) := by decide +kernel
theorem dL_law_765 : decode cL_law 765 = .ok (.iload_n 3, 1) := by decide +kernel
theorem dL_law_766 : decode cL_law 766 = .ok (.iconst 1, 1) := by decide +kernel
theorem dL_law_767 : decode cL_law 767 = .ok (.iadd, 1) := by decide +kernel
theorem dL_law_768 : decode cL_law 768 = .ok (.iaload, 1) := by decide +kernel
theorem dL_law_769 : decode cL_law 769 = .ok (.invokevirtual 80, 3) := by decide +kernel
theorem dL_law_772 : decode cL_law 772 = .ok (.pop, 1) := by decide +kernel
theorem dL_law_773 : decode cL_law 773 = .ok (.goto 1345, 3) := by decide +kernel
theorem dL_law_776 : decode cL_law 776 = .ok (.aload_n 1, 1) := by decide +kernel
theorem dL_law_777 : decode cL_law 777 = .ok (.aload_n 0, 1) := by decide +kernel
theorem dL_law_778 : decode cL_law 778 = .ok (.iload_n 3, 1) := by decide +kernel
theorem dL_law_779 : decode cL_law 779 = .ok (.iconst 1, 1) := by decide +kernel
theorem dL_law_780 : decode cL_law 780 = .ok (.iadd, 1) := by decide +kernel
theorem dL_law_781 : decode cL_law 781 = .ok (.iaload, 1) := by decide +kernel
theorem dL_law_782 : decode cL_law 782 = .ok (.invokevirtual 81, 3) := by decide +kernel
theorem dL_law_785 : decode cL_law 785 = .ok (.pop, 1) := by decide +kernel
theorem dL_law_786 : decode cL_law 786 = .ok (.aload_n 2, 1) := by decide +kernel
theorem dL_law_787 : decode cL_law 787 = .ok (.aload_n 0, 1) := by decide +kernel
theorem dL_law_788 : decode cL_law 788 = .ok (.iload_n 3, 1) := by decide +kernel
theorem dL_law_789 : decode cL_law 789 = .ok (.iconst 1, 1) := by decide +kernel
theorem dL_law_790 : decode cL_law 790 = .ok (.iadd, 1) := by decide +kernel
theorem dL_law_791 : decode cL_law 791 = .ok (.iaload, 1) := by decide +kernel
theorem dL_law_792 : decode cL_law 792 = .ok (.invokevirtual 84, 3) := by decide +kernel
theorem dL_law_795 : decode cL_law 795 = .ok (.pop, 1) := by decide +kernel
theorem dL_law_796 : decode cL_law 796 = .ok (.goto 1322, 3) := by decide +kernel
theorem dL_law_799 : decode cL_law 799 = .ok (.aload_n 1, 1) := by decide +kernel
theorem dL_law_800 : decode cL_law 800 = .ok (.invokevirtual 85, 3) := by decide +kernel
theorem dL_law_803 : decode cL_law 803 = .ok (.pop, 1) := by decide +kernel
theorem dL_law_804 : decode cL_law 804 = .ok (.aload_n 2, 1) := by decide +kernel
theorem dL_law_805 : decode cL_law 805 = .ok (.invokevirtual 88, 3) := by decide +kernel
theorem dL_law_808 : decode cL_law 808 = .ok (.pop, 1) := by decide +kernel
theorem dL_law_809 : decode cL_law 809 = .ok (.goto 1309, 3) := by decide +kernel
theorem dL_law_812 : decode cL_law 812 = .ok (.aload_n 1, 1) := by decide +kernel
theorem dL_law_813 : decode cL_law 813 = .ok (.invokevirtual 89, 3) := by decide +kernel
theorem dL_law_816 : decode cL_law 816 = .ok (.pop, 1) := by decide +kernel
theorem dL_law_817 : decode cL_law 817 = .ok (.aload_n 2, 1) := by decide +kernel
theorem dL_law_818 : decode cL_law 818 = .ok (.invokevirtual 92, 3) := by decide +kernel
theorem dL_law_821 : decode cL_law 821 = .ok (.pop, 1) := by decide +kernel
theorem dL_law_822 : decode cL_law 822 = .ok (.goto 1296, 3) := by decide +kernel
theorem dL_law_825 : decode cL_law 825 = .ok (.aload_n 1, 1) := by decide +kernel
theorem dL_law_826 : decode cL_law 826 = .ok (.invokevirtual 93, 3) := by decide +kernel
theorem dL_law_829 : decode cL_law 829 = .ok (.pop, 1) := by decide +kernel
theorem dL_law_830 : decode cL_law 830 = .ok (.aload_n 2, 1) := by decide +kernel
theorem dL_law_831 : decode cL_law 831 = .ok (.invokevirtual 96, 3) := by decide +kernel
theorem dL_law_834 : decode cL_law 834 = .ok (.pop, 1) := by decide +kernel
theorem dL_law_835 : decode cL_law 835 = .ok (.goto 1283, 3) := by decide +kernel
theorem dL_law_838 : decode cL_law 838 = .ok (.aload_n 1, 1) := by decide +kernel
theorem dL_law_839 : decode cL_law 839 = .ok (.invokevirtual 97, 3) := by decide +kernel
theorem dL_law_842 : decode cL_law 842 = .ok (.pop, 1) := by decide +kernel
theorem dL_law_843 : decode cL_law 843 = .ok (.aload_n 2, 1) := by decide +kernel
theorem dL_law_844 : decode cL_law 844 = .ok (.invokevirtual 100, 3) := by decide +kernel
theorem dL_law_847 : decode cL_law 847 = .ok (.pop, 1) := by decide +kernel
theorem dL_law_848 : decode cL_law 848 = .ok (.goto 1270, 3) := by decide +kernel
theorem dL_law_851 : decode cL_law 851 = .ok (.aload_n 1, 1) := by decide +kernel
theorem dL_law_852 : decode cL_law 852 = .ok (.invokevirtual 101, 3) := by decide +kernel
theorem dL_law_855 : decode cL_law 855 = .ok (.pop, 1) := by decide +kernel
theorem dL_law_856 : decode cL_law 856 = .ok (.aload_n 2, 1) := by decide +kernel
theorem dL_law_857 : decode cL_law 857 = .ok (.invokevirtual 104, 3) := by decide +kernel
theorem dL_law_860 : decode cL_law 860 = .ok (.pop, 1) := by decide +kernel
theorem dL_law_861 : decode cL_law 861 = .ok (.goto 1257, 3) := by decide +kernel
theorem dL_law_864 : decode cL_law 864 = .ok (.aload_n 1, 1) := by decide +kernel
theorem dL_law_865 : decode cL_law 865 = .ok (.invokevirtual 105, 3) := by decide +kernel
theorem dL_law_868 : decode cL_law 868 = .ok (.pop, 1) := by decide +kernel
theorem dL_law_869 : decode cL_law 869 = .ok (.aload_n 2, 1) := by decide +kernel
theorem dL_law_870 : decode cL_law 870 = .ok (.invokevirtual 108, 3) := by decide +kernel
theorem dL_law_873 : decode cL_law 873 = .ok (.pop, 1) := by decide +kernel
theorem dL_law_874 : decode cL_law 874 = .ok (.goto 1244, 3) := by decide +kernel
theorem dL_law_877 : decode cL_law 877 = .ok (.aload_n 1, 1) := by decide +kernel
theorem dL_law_878 : decode cL_law 878 = .ok (.invokevirtual 109, 3) := by decide +kernel
theorem dL_law_881 : decode cL_law 881 = .ok (.pop, 1) := by decide +kernel
theorem dL_law_882 : decode cL_law 882 = .ok (.aload_n 2, 1) := by decide +kernel
theorem dL_law_883 : decode cL_law 883 = .ok (.invokevirtual 112, 3) := by decide +kernel
theorem dL_law_886 : decode cL_law 886 = .ok (.pop, 1) := by decide +kernel
theorem dL_law_887 : decode cL_law 887 = .ok (.goto 1231, 3) := by decide +kernel
theorem dL_law_890 : decode cL_law 890 = .ok (.aload_n 1, 1) := by decide +kernel
theorem dL_law_891 : decode cL_law 891 = .ok (.aload_n 0, 1) := by decide +kernel
theorem dL_law_892 : decode cL_law 892 = .ok (.iload_n 3, 1) := by decide +kernel
theorem dL_law_893 : decode cL_law 893 = .ok (.iconst 1, 1) := by decide +kernel
theorem dL_law_894 : decode cL_law 894 = .ok (.iadd, 1) := by decide +kernel
theorem dL_law_895 : decode cL_law 895 = .ok (.iaload, 1) := by decide +kernel
theorem dL_law_896 : decode cL_law 896 = .ok (.invokevirtual 113, 3) := by decide +kernel
theorem dL_law_899 : decode cL_law 899 = .ok (.pop, 1) := by decide +kernel
theorem dL_law_900 : decode cL_law 900 = .ok (.aload_n 2, 1) := by decide +kernel
theorem dL_law_901 : decode cL_law 901 = .ok (.aload_n 0, 1) := by decide +kernel
theorem dL_law_902 : decode cL_law 902 = .ok (.iload_n 3, 1) := by decide +kernel
theorem dL_law_903 : decode cL_law 903 = .ok (.iconst 1, 1) := by decide +kernel
theorem dL_law_904 : decode cL_law 904 = .ok (.iadd, 1) := by decide +kernel
theorem dL_law_905 : decode cL_law 905 = .ok (.iaload, 1) := by decide +kernel
theorem dL_law_906 : decode cL_law 906 = .ok (.invokevirtual 116, 3) := by decide +kernel
theorem dL_law_909 : decode cL_law 909 = .ok (.pop, 1) := by decide +kernel
theorem dL_law_910 : decode cL_law 910 = .ok (.goto 1208, 3) := by decide +kernel
theorem dL_law_913 : decode cL_law 913 = .ok (.aload_n 1, 1) := by decide +kernel
theorem dL_law_914 : decode cL_law 914 = .ok (.invokevirtual 117, 3) := by decide +kernel
theorem dL_law_917 : decode cL_law 917 = .ok (.pop, 1) := by decide +kernel
theorem dL_law_918 : decode cL_law 918 = .ok (.aload_n 2, 1) := by decide +kernel
theorem dL_law_919 : decode cL_law 919 = .ok (.invokevirtual 120, 3) := by decide +kernel
theorem dL_law_922 : decode cL_law 922 = .ok (.pop, 1) := by decide +kernel
theorem dL_law_923 : decode cL_law 923 = .ok (.goto 1195, 3) := by decide +kernel
theorem dL_law_926 : decode cL_law 926 = .ok (.aload_n 1, 1) := by decide +kernel
theorem dL_law_927 : decode cL_law 927 = .ok (.aload_n 0, 1) := by decide +kernel
theorem dL_law_928 : decode cL_law 928 = .ok (.iload_n 3, 1) := by decide +kernel
theorem dL_law_929 : decode cL_law 929 = .ok (.iconst 1, 1) := by decide +kernel
theorem dL_law_930 : decode cL_law 930 = .ok (.iadd, 1) := by decide +kernel
theorem dL_law_931 : decode cL_law 931 = .ok (.iaload, 1) := by decide +kernel
theorem dL_law_932 : decode cL_law 932 = .ok (.aload_n 0, 1) := by decide +kernel
theorem dL_law_933 : decode cL_law 933 = .ok (.iload_n 3, 1) := by decide +kernel
theorem dL_law_934 : decode cL_law 934 = .ok (.iconst 2, 1) := by decide +kernel
theorem dL_law_935 : decode cL_law 935 = .ok (.iadd, 1) := by decide +kernel
theorem dL_law_936 : decode cL_law 936 = .ok (.iaload, 1) := by decide +kernel
theorem dL_law_937 : decode cL_law 937 = .ok (.invokevirtual 121, 3) := by decide +kernel
theorem dL_law_940 : decode cL_law 940 = .ok (.pop, 1) := by decide +kernel
theorem dL_law_941 : decode cL_law 941 = .ok (.aload_n 2, 1) := by decide +kernel
theorem dL_law_942 : decode cL_law 942 = .ok (.aload_n 0, 1) := by decide +kernel
theorem dL_law_943 : decode cL_law 943 = .ok (.iload_n 3, 1) := by decide +kernel
theorem dL_law_944 : decode cL_law 944 = .ok (.iconst 1, 1) := by decide +kernel
theorem dL_law_945 : decode cL_law 945 = .ok (.iadd, 1) := by decide +kernel
theorem dL_law_946 : decode cL_law 946 = .ok (.iaload, 1) := by decide +kernel
theorem dL_law_947 : decode cL_law 947 = .ok (.aload_n 0, 1) := by decide +kernel
theorem dL_law_948 : decode cL_law 948 = .ok (.iload_n 3, 1) := by decide +kernel
theorem dL_law_949 : decode cL_law 949 = .ok (.iconst 2, 1) := by decide +kernel
theorem dL_law_950 : decode cL_law 950 = .ok (.iadd, 1) := by decide +kernel
theorem dL_law_951 : decode cL_law 951 = .ok (.iaload, 1) := by decide +kernel
theorem dL_law_952 : decode cL_law 952 = .ok (.invokevirtual 124, 3) := by decide +kernel
theorem dL_law_955 : decode cL_law 955 = .ok (.pop, 1) := by decide +kernel
theorem dL_law_956 : decode cL_law 956 = .ok (.goto 1162, 3) := by decide +kernel
theorem dL_law_959 : decode cL_law 959 = .ok (.aload_n 1, 1) := by decide +kernel
theorem dL_law_960 : decode cL_law 960 = .ok (.invokevirtual 125, 3) := by decide +kernel
theorem dL_law_963 : decode cL_law 963 = .ok (.pop, 1) := by decide +kernel
theorem dL_law_964 : decode cL_law 964 = .ok (.aload_n 2, 1) := by decide +kernel
theorem dL_law_965 : decode cL_law 965 = .ok (.invokevirtual 128, 3) := by decide +kernel
theorem dL_law_968 : decode cL_law 968 = .ok (.pop, 1) := by decide +kernel
theorem dL_law_969 : decode cL_law 969 = .ok (.goto 1149, 3) := by decide +kernel
theorem wd1342 : Cond.instanceMethod yX9_hears ∈ gW := gm (tm_3 167 (by decide +kernel)) rfl
theorem wd1343 : Cond.selects RX9 yX9_hears yX9_hears ∈ gW := gm (tm_3 168 (by decide +kernel)) rfl
theorem wd1344 : Cond.code yX9_hears cX9_hears 3 (some .int) ∈ gW := gm (tm_3 169 (by decide +kernel)) rfl
theorem wd1345 : Cond.methodLink RL 73 yX9_hears ∈ gW := gm (tm_3 166 (by decide +kernel)) rfl
theorem wd1346 : Cond.instanceMethod yX10_hears ∈ gW := gm (tm_8 25 (by decide +kernel)) rfl
theorem wd1347 : Cond.selects RX10 yX10_hears yX10_hears ∈ gW := gm (tm_8 26 (by decide +kernel)) rfl
theorem wd1348 : Cond.code yX10_hears cX10_hears 3 (some .int) ∈ gW := gm (tm_8 27 (by decide +kernel)) rfl
theorem wd1349 : Cond.methodLink RL 76 yX10_hears ∈ gW := gm (tm_8 24 (by decide +kernel)) rfl
theorem wd1350 : Cond.instanceMethod yX9_heard ∈ gW := gm (tm_3 179 (by decide +kernel)) rfl
theorem wd1351 : Cond.selects RX9 yX9_heard yX9_heard ∈ gW := gm (tm_3 180 (by decide +kernel)) rfl
theorem wd1352 : Cond.code yX9_heard cX9_heard 2 (some .int) ∈ gW := gm (tm_3 181 (by decide +kernel)) rfl
theorem wd1353 : Cond.methodLink RL 77 yX9_heard ∈ gW := gm (tm_3 178 (by decide +kernel)) rfl
theorem wd1354 : Cond.instanceMethod yX10_heard ∈ gW := gm (tm_8 29 (by decide +kernel)) rfl
theorem wd1355 : Cond.selects RX10 yX10_heard yX10_heard ∈ gW := gm (tm_8 30 (by decide +kernel)) rfl
theorem wd1356 : Cond.code yX10_heard cX10_heard 2 (some .int) ∈ gW := gm (tm_8 31 (by decide +kernel)) rfl
theorem wd1357 : Cond.methodLink RL 80 yX10_heard ∈ gW := gm (tm_8 28 (by decide +kernel)) rfl
theorem wd1358 : Cond.instanceMethod yX9_ears ∈ gW := gm (tm_3 199 (by decide +kernel)) rfl
theorem wd1359 : Cond.selects RX9 yX9_ears yX9_ears ∈ gW := gm (tm_3 200 (by decide +kernel)) rfl
theorem wd1360 : Cond.code yX9_ears cX9_ears 2 (some .int) ∈ gW := gm (tm_3 201 (by decide +kernel)) rfl
theorem wd1361 : Cond.methodLink RL 81 yX9_ears ∈ gW := gm (tm_3 198 (by decide +kernel)) rfl
theorem wd1362 : Cond.instanceMethod yX10_ears ∈ gW := gm (tm_8 37 (by decide +kernel)) rfl
theorem wd1363 : Cond.selects RX10 yX10_ears yX10_ears ∈ gW := gm (tm_8 38 (by decide +kernel)) rfl
theorem wd1364 : Cond.code yX10_ears cX10_ears 2 (some .int) ∈ gW := gm (tm_8 39 (by decide +kernel)) rfl
theorem wd1365 : Cond.methodLink RL 84 yX10_ears ∈ gW := gm (tm_8 36 (by decide +kernel)) rfl
theorem wd1366 : Cond.instanceMethod yX9_loud ∈ gW := gm (tm_3 203 (by decide +kernel)) rfl
theorem wd1367 : Cond.selects RX9 yX9_loud yX9_loud ∈ gW := gm (tm_3 204 (by decide +kernel)) rfl
theorem wd1368 : Cond.code yX9_loud cX9_loud 3 (some .int) ∈ gW := gm (tm_3 205 (by decide +kernel)) rfl
theorem wd1369 : Cond.methodLink RL 85 yX9_loud ∈ gW := gm (tm_3 202 (by decide +kernel)) rfl
theorem wd1370 : Cond.instanceMethod yX10_loud ∈ gW := gm (tm_8 41 (by decide +kernel)) rfl
theorem wd1371 : Cond.selects RX10 yX10_loud yX10_loud ∈ gW := gm (tm_8 42 (by decide +kernel)) rfl
theorem wd1372 : Cond.code yX10_loud cX10_loud 3 (some .int) ∈ gW := gm (tm_8 43 (by decide +kernel)) rfl
theorem wd1373 : Cond.methodLink RL 88 yX10_loud ∈ gW := gm (tm_8 40 (by decide +kernel)) rfl
theorem wd1374 : Cond.instanceMethod yX9_quiet ∈ gW := gm (tm_3 208 (by decide +kernel)) rfl
theorem wd1375 : Cond.selects RX9 yX9_quiet yX9_quiet ∈ gW := gm (tm_3 209 (by decide +kernel)) rfl
theorem wd1376 : Cond.code yX9_quiet cX9_quiet 3 (some .int) ∈ gW := gm (tm_3 210 (by decide +kernel)) rfl
theorem wd1377 : Cond.methodLink RL 89 yX9_quiet ∈ gW := gm (tm_3 207 (by decide +kernel)) rfl
theorem wd1378 : Cond.instanceMethod yX10_quiet ∈ gW := gm (tm_8 45 (by decide +kernel)) rfl
theorem wd1379 : Cond.selects RX10 yX10_quiet yX10_quiet ∈ gW := gm (tm_8 46 (by decide +kernel)) rfl
theorem wd1380 : Cond.code yX10_quiet cX10_quiet 3 (some .int) ∈ gW := gm (tm_8 47 (by decide +kernel)) rfl
theorem wd1381 : Cond.methodLink RL 92 yX10_quiet ∈ gW := gm (tm_8 44 (by decide +kernel)) rfl
theorem wd1382 : Cond.instanceMethod yX9_served ∈ gW := gm (tm_3 212 (by decide +kernel)) rfl
theorem wd1383 : Cond.selects RX9 yX9_served yX9_served ∈ gW := gm (tm_3 213 (by decide +kernel)) rfl
theorem wd1384 : Cond.code yX9_served cX9_served 1 (some .int) ∈ gW := gm (tm_3 214 (by decide +kernel)) rfl
theorem wd1385 : Cond.methodLink RL 93 yX9_served ∈ gW := gm (tm_3 211 (by decide +kernel)) rfl
theorem wd1386 : Cond.instanceMethod yX10_served ∈ gW := gm (tm_8 49 (by decide +kernel)) rfl
theorem wd1387 : Cond.selects RX10 yX10_served yX10_served ∈ gW := gm (tm_8 50 (by decide +kernel)) rfl
theorem wd1388 : Cond.code yX10_served cX10_served 1 (some .int) ∈ gW := gm (tm_8 51 (by decide +kernel)) rfl
theorem wd1389 : Cond.methodLink RL 96 yX10_served ∈ gW := gm (tm_8 48 (by decide +kernel)) rfl
theorem wd1390 : Cond.instanceMethod yX9_income ∈ gW := gm (tm_3 229 (by decide +kernel)) rfl
theorem wd1391 : Cond.selects RX9 yX9_income yX9_income ∈ gW := gm (tm_3 230 (by decide +kernel)) rfl
theorem wd1392 : Cond.code yX9_income cX9_income 1 (some .int) ∈ gW := gm (tm_3 231 (by decide +kernel)) rfl
theorem wd1393 : Cond.methodLink RL 97 yX9_income ∈ gW := gm (tm_3 228 (by decide +kernel)) rfl
theorem wd1394 : Cond.instanceMethod yX10_income ∈ gW := gm (tm_8 65 (by decide +kernel)) rfl
theorem wd1395 : Cond.selects RX10 yX10_income yX10_income ∈ gW := gm (tm_8 66 (by decide +kernel)) rfl
theorem wd1396 : Cond.code yX10_income cX10_income 1 (some .int) ∈ gW := gm (tm_8 67 (by decide +kernel)) rfl
theorem wd1397 : Cond.methodLink RL 100 yX10_income ∈ gW := gm (tm_8 64 (by decide +kernel)) rfl
theorem wd1398 : Cond.instanceMethod yX9_unpaid ∈ gW := gm (tm_4 2 (by decide +kernel)) rfl
theorem wd1399 : Cond.selects RX9 yX9_unpaid yX9_unpaid ∈ gW := gm (tm_4 3 (by decide +kernel)) rfl
theorem wd1400 : Cond.code yX9_unpaid cX9_unpaid 1 (some .int) ∈ gW := gm (tm_4 4 (by decide +kernel)) rfl
theorem wd1401 : Cond.methodLink RL 101 yX9_unpaid ∈ gW := gm (tm_4 1 (by decide +kernel)) rfl
theorem wd1402 : Cond.instanceMethod yX10_unpaid ∈ gW := gm (tm_8 77 (by decide +kernel)) rfl
theorem wd1403 : Cond.selects RX10 yX10_unpaid yX10_unpaid ∈ gW := gm (tm_8 78 (by decide +kernel)) rfl
theorem wd1404 : Cond.code yX10_unpaid cX10_unpaid 1 (some .int) ∈ gW := gm (tm_8 79 (by decide +kernel)) rfl
theorem wd1405 : Cond.methodLink RL 104 yX10_unpaid ∈ gW := gm (tm_8 76 (by decide +kernel)) rfl
theorem wd1406 : Cond.instanceMethod yX9_first ∈ gW := gm (tm_4 22 (by decide +kernel)) rfl
theorem wd1407 : Cond.selects RX9 yX9_first yX9_first ∈ gW := gm (tm_4 23 (by decide +kernel)) rfl
theorem wd1408 : Cond.code yX9_first cX9_first 5 (some .int) ∈ gW := gm (tm_4 24 (by decide +kernel)) rfl
theorem wd1409 : Cond.methodLink RL 105 yX9_first ∈ gW := gm (tm_4 21 (by decide +kernel)) rfl
theorem wd1410 : Cond.instanceMethod yX10_first ∈ gW := gm (tm_8 85 (by decide +kernel)) rfl
theorem wd1411 : Cond.selects RX10 yX10_first yX10_first ∈ gW := gm (tm_8 86 (by decide +kernel)) rfl
theorem wd1412 : Cond.code yX10_first cX10_first 5 (some .int) ∈ gW := gm (tm_8 87 (by decide +kernel)) rfl
theorem wd1413 : Cond.methodLink RL 108 yX10_first ∈ gW := gm (tm_8 84 (by decide +kernel)) rfl
theorem wd1414 : Cond.instanceMethod yX9_lacks ∈ gW := gm (tm_4 34 (by decide +kernel)) rfl
theorem wd1415 : Cond.selects RX9 yX9_lacks yX9_lacks ∈ gW := gm (tm_4 35 (by decide +kernel)) rfl
theorem wd1416 : Cond.code yX9_lacks cX9_lacks 5 (some .int) ∈ gW := gm (tm_4 36 (by decide +kernel)) rfl
theorem wd1417 : Cond.methodLink RL 109 yX9_lacks ∈ gW := gm (tm_4 33 (by decide +kernel)) rfl
theorem wd1418 : Cond.instanceMethod yX10_lacks ∈ gW := gm (tm_8 89 (by decide +kernel)) rfl
theorem wd1419 : Cond.selects RX10 yX10_lacks yX10_lacks ∈ gW := gm (tm_8 90 (by decide +kernel)) rfl
theorem wd1420 : Cond.code yX10_lacks cX10_lacks 4 (some .int) ∈ gW := gm (tm_8 91 (by decide +kernel)) rfl
theorem wd1421 : Cond.methodLink RL 112 yX10_lacks ∈ gW := gm (tm_8 88 (by decide +kernel)) rfl
theorem wd1422 : Cond.instanceMethod yX9_near ∈ gW := gm (tm_4 38 (by decide +kernel)) rfl
theorem wd1423 : Cond.selects RX9 yX9_near yX9_near ∈ gW := gm (tm_4 39 (by decide +kernel)) rfl
theorem wd1424 : Cond.code yX9_near cX9_near 2 (some .int) ∈ gW := gm (tm_4 40 (by decide +kernel)) rfl
theorem wd1425 : Cond.methodLink RL 113 yX9_near ∈ gW := gm (tm_4 37 (by decide +kernel)) rfl
theorem wd1426 : Cond.instanceMethod yX10_near ∈ gW := gm (tm_8 93 (by decide +kernel)) rfl
theorem wd1427 : Cond.selects RX10 yX10_near yX10_near ∈ gW := gm (tm_8 94 (by decide +kernel)) rfl
theorem wd1428 : Cond.code yX10_near cX10_near 4 (some .int) ∈ gW := gm (tm_8 95 (by decide +kernel)) rfl
theorem wd1429 : Cond.methodLink RL 116 yX10_near ∈ gW := gm (tm_8 92 (by decide +kernel)) rfl
theorem wd1430 : Cond.instanceMethod yX9_lone ∈ gW := gm (tm_4 42 (by decide +kernel)) rfl
theorem wd1431 : Cond.selects RX9 yX9_lone yX9_lone ∈ gW := gm (tm_4 43 (by decide +kernel)) rfl
theorem wd1432 : Cond.code yX9_lone cX9_lone 1 (some .int) ∈ gW := gm (tm_4 44 (by decide +kernel)) rfl
theorem wd1433 : Cond.methodLink RL 117 yX9_lone ∈ gW := gm (tm_4 41 (by decide +kernel)) rfl
theorem wd1434 : Cond.instanceMethod yX10_lone ∈ gW := gm (tm_8 97 (by decide +kernel)) rfl
theorem wd1435 : Cond.selects RX10 yX10_lone yX10_lone ∈ gW := gm (tm_8 98 (by decide +kernel)) rfl
theorem wd1436 : Cond.code yX10_lone cX10_lone 3 (some .int) ∈ gW := gm (tm_8 99 (by decide +kernel)) rfl
theorem wd1437 : Cond.methodLink RL 120 yX10_lone ∈ gW := gm (tm_8 96 (by decide +kernel)) rfl
theorem wd1438 : Cond.instanceMethod yX9_meets ∈ gW := gm (tm_4 46 (by decide +kernel)) rfl
theorem wd1439 : Cond.selects RX9 yX9_meets yX9_meets ∈ gW := gm (tm_4 47 (by decide +kernel)) rfl
theorem wd1440 : Cond.code yX9_meets cX9_meets 3 (some .int) ∈ gW := gm (tm_4 48 (by decide +kernel)) rfl
theorem wd1441 : Cond.methodLink RL 121 yX9_meets ∈ gW := gm (tm_4 45 (by decide +kernel)) rfl
theorem wd1442 : Cond.instanceMethod yX10_meets ∈ gW := gm (tm_8 101 (by decide +kernel)) rfl
theorem wd1443 : Cond.selects RX10 yX10_meets yX10_meets ∈ gW := gm (tm_8 102 (by decide +kernel)) rfl
theorem wd1444 : Cond.code yX10_meets cX10_meets 4 (some .int) ∈ gW := gm (tm_8 103 (by decide +kernel)) rfl
theorem wd1445 : Cond.methodLink RL 124 yX10_meets ∈ gW := gm (tm_8 100 (by decide +kernel)) rfl
theorem wd1446 : Cond.instanceMethod yX9_spare ∈ gW := gm (tm_4 59 (by decide +kernel)) rfl
theorem wd1447 : Cond.selects RX9 yX9_spare yX9_spare ∈ gW := gm (tm_4 60 (by decide +kernel)) rfl
theorem wd1448 : Cond.code yX9_spare cX9_spare 4 (some .int) ∈ gW := gm (tm_4 61 (by decide +kernel)) rfl
theorem wd1449 : Cond.methodLink RL 125 yX9_spare ∈ gW := gm (tm_4 58 (by decide +kernel)) rfl
theorem wd1450 : Cond.instanceMethod yX10_spare ∈ gW := gm (tm_8 105 (by decide +kernel)) rfl
theorem wd1451 : Cond.selects RX10 yX10_spare yX10_spare ∈ gW := gm (tm_8 106 (by decide +kernel)) rfl
theorem wd1452 : Cond.code yX10_spare cX10_spare 3 (some .int) ∈ gW := gm (tm_8 107 (by decide +kernel)) rfl
theorem wd1453 : Cond.methodLink RL 128 yX10_spare ∈ gW := gm (tm_8 104 (by decide +kernel)) rfl
theorem my_X9_hears : gWV RX9 yX9_hears cX9_hears 3 (some .int) 2 := ⟨⟨wd1342, wd1343, wd2, wd1344⟩, ⟨rfl, by decide +kernel, by decide +kernel, by decide +kernel⟩⟩
theorem my_X10_hears : gWV RX10 yX10_hears cX10_hears 3 (some .int) 2 := ⟨⟨wd1346, wd1347, wd742, wd1348⟩, ⟨rfl, by decide +kernel, by decide +kernel, by decide +kernel⟩⟩
theorem my_X9_heard : gWV RX9 yX9_heard cX9_heard 2 (some .int) 1 := ⟨⟨wd1350, wd1351, wd2, wd1352⟩, ⟨rfl, by decide +kernel, by decide +kernel, by decide +kernel⟩⟩
theorem my_X10_heard : gWV RX10 yX10_heard cX10_heard 2 (some .int) 1 := ⟨⟨wd1354, wd1355, wd742, wd1356⟩, ⟨rfl, by decide +kernel, by decide +kernel, by decide +kernel⟩⟩
theorem my_X9_ears : gWV RX9 yX9_ears cX9_ears 2 (some .int) 1 := ⟨⟨wd1358, wd1359, wd2, wd1360⟩, ⟨rfl, by decide +kernel, by decide +kernel, by decide +kernel⟩⟩
theorem my_X10_ears : gWV RX10 yX10_ears cX10_ears 2 (some .int) 1 := ⟨⟨wd1362, wd1363, wd742, wd1364⟩, ⟨rfl, by decide +kernel, by decide +kernel, by decide +kernel⟩⟩
theorem my_X9_loud : gWV RX9 yX9_loud cX9_loud 3 (some .int) 0 := ⟨⟨wd1366, wd1367, wd2, wd1368⟩, ⟨rfl, by decide +kernel, by decide +kernel, by decide +kernel⟩⟩
theorem my_X10_loud : gWV RX10 yX10_loud cX10_loud 3 (some .int) 0 := ⟨⟨wd1370, wd1371, wd742, wd1372⟩, ⟨rfl, by decide +kernel, by decide +kernel, by decide +kernel⟩⟩
theorem my_X9_quiet : gWV RX9 yX9_quiet cX9_quiet 3 (some .int) 0 := ⟨⟨wd1374, wd1375, wd2, wd1376⟩, ⟨rfl, by decide +kernel, by decide +kernel, by decide +kernel⟩⟩
theorem my_X10_quiet : gWV RX10 yX10_quiet cX10_quiet 3 (some .int) 0 := ⟨⟨wd1378, wd1379, wd742, wd1380⟩, ⟨rfl, by decide +kernel, by decide +kernel, by decide +kernel⟩⟩
theorem my_X9_served : gWV RX9 yX9_served cX9_served 1 (some .int) 0 := ⟨⟨wd1382, wd1383, wd2, wd1384⟩, ⟨rfl, by decide +kernel, by decide +kernel, by decide +kernel⟩⟩
theorem my_X10_served : gWV RX10 yX10_served cX10_served 1 (some .int) 0 := ⟨⟨wd1386, wd1387, wd742, wd1388⟩, ⟨rfl, by decide +kernel, by decide +kernel, by decide +kernel⟩⟩
theorem my_X9_income : gWV RX9 yX9_income cX9_income 1 (some .int) 0 := ⟨⟨wd1390, wd1391, wd2, wd1392⟩, ⟨rfl, by decide +kernel, by decide +kernel, by decide +kernel⟩⟩
theorem my_X10_income : gWV RX10 yX10_income cX10_income 1 (some .int) 0 := ⟨⟨wd1394, wd1395, wd742, wd1396⟩, ⟨rfl, by decide +kernel, by decide +kernel, by decide +kernel⟩⟩
theorem my_X9_unpaid : gWV RX9 yX9_unpaid cX9_unpaid 1 (some .int) 0 := ⟨⟨wd1398, wd1399, wd2, wd1400⟩, ⟨rfl, by decide +kernel, by decide +kernel, by decide +kernel⟩⟩
theorem my_X10_unpaid : gWV RX10 yX10_unpaid cX10_unpaid 1 (some .int) 0 := ⟨⟨wd1402, wd1403, wd742, wd1404⟩, ⟨rfl, by decide +kernel, by decide +kernel, by decide +kernel⟩⟩
theorem my_X9_first : gWV RX9 yX9_first cX9_first 5 (some .int) 0 := ⟨⟨wd1406, wd1407, wd2, wd1408⟩, ⟨rfl, by decide +kernel, by decide +kernel, by decide +kernel⟩⟩
theorem my_X10_first : gWV RX10 yX10_first cX10_first 5 (some .int) 0 := ⟨⟨wd1410, wd1411, wd742, wd1412⟩, ⟨rfl, by decide +kernel, by decide +kernel, by decide +kernel⟩⟩
theorem my_X9_lacks : gWV RX9 yX9_lacks cX9_lacks 5 (some .int) 0 := ⟨⟨wd1414, wd1415, wd2, wd1416⟩, ⟨rfl, by decide +kernel, by decide +kernel, by decide +kernel⟩⟩
theorem my_X10_lacks : gWV RX10 yX10_lacks cX10_lacks 4 (some .int) 0 := ⟨⟨wd1418, wd1419, wd742, wd1420⟩, ⟨rfl, by decide +kernel, by decide +kernel, by decide +kernel⟩⟩
theorem my_X9_near : gWV RX9 yX9_near cX9_near 2 (some .int) 1 := ⟨⟨wd1422, wd1423, wd2, wd1424⟩, ⟨rfl, by decide +kernel, by decide +kernel, by decide +kernel⟩⟩
theorem my_X10_near : gWV RX10 yX10_near cX10_near 4 (some .int) 1 := ⟨⟨wd1426, wd1427, wd742, wd1428⟩, ⟨rfl, by decide +kernel, by decide +kernel, by decide +kernel⟩⟩
theorem my_X9_lone : gWV RX9 yX9_lone cX9_lone 1 (some .int) 0 := ⟨⟨wd1430, wd1431, wd2, wd1432⟩, ⟨rfl, by decide +kernel, by decide +kernel, by decide +kernel⟩⟩
theorem my_X10_lone : gWV RX10 yX10_lone cX10_lone 3 (some .int) 0 := ⟨⟨wd1434, wd1435, wd742, wd1436⟩, ⟨rfl, by decide +kernel, by decide +kernel, by decide +kernel⟩⟩
theorem my_X9_meets : gWV RX9 yX9_meets cX9_meets 3 (some .int) 2 := ⟨⟨wd1438, wd1439, wd2, wd1440⟩, ⟨rfl, by decide +kernel, by decide +kernel, by decide +kernel⟩⟩
theorem my_X10_meets : gWV RX10 yX10_meets cX10_meets 4 (some .int) 2 := ⟨⟨wd1442, wd1443, wd742, wd1444⟩, ⟨rfl, by decide +kernel, by decide +kernel, by decide +kernel⟩⟩
theorem my_X9_spare : gWV RX9 yX9_spare cX9_spare 4 (some .int) 0 := ⟨⟨wd1446, wd1447, wd2, wd1448⟩, ⟨rfl, by decide +kernel, by decide +kernel, by decide +kernel⟩⟩
theorem my_X10_spare : gWV RX10 yX10_spare cX10_spare 3 (some .int) 0 := ⟨⟨wd1450, wd1451, wd742, wd1452⟩, ⟨rfl, by decide +kernel, by decide +kernel, by decide +kernel⟩⟩
