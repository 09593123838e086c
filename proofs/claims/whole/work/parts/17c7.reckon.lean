/-! The reckoning, counts 49152 on. -/
set_option maxRecDepth 100000 in
theorem fl_b768 : n_all n_ok 6 49152 = true := by decide +kernel
set_option maxRecDepth 100000 in
theorem fl_b769 : n_all n_ok 6 49216 = true := by decide +kernel
set_option maxRecDepth 100000 in
theorem fl_b770 : n_all n_ok 6 49280 = true := by decide +kernel
set_option maxRecDepth 100000 in
theorem fl_b771 : n_all n_ok 6 49344 = true := by decide +kernel
set_option maxRecDepth 100000 in
theorem fl_b772 : n_all n_ok 6 49408 = true := by decide +kernel
set_option maxRecDepth 100000 in
theorem fl_b773 : n_all n_ok 6 49472 = true := by decide +kernel
set_option maxRecDepth 100000 in
theorem fl_b774 : n_all n_ok 6 49536 = true := by decide +kernel
set_option maxRecDepth 100000 in
theorem fl_b775 : n_all n_ok 6 49600 = true := by decide +kernel
set_option maxRecDepth 100000 in
theorem fl_b776 : n_all n_ok 6 49664 = true := by decide +kernel
set_option maxRecDepth 100000 in
theorem fl_b777 : n_all n_ok 6 49728 = true := by decide +kernel
set_option maxRecDepth 100000 in
theorem fl_b778 : n_all n_ok 6 49792 = true := by decide +kernel
set_option maxRecDepth 100000 in
theorem fl_b779 : n_all n_ok 6 49856 = true := by decide +kernel
set_option maxRecDepth 100000 in
theorem fl_b780 : n_all n_ok 6 49920 = true := by decide +kernel
set_option maxRecDepth 100000 in
theorem fl_b781 : n_all n_ok 6 49984 = true := by decide +kernel
set_option maxRecDepth 100000 in
theorem fl_b782 : n_all n_ok 6 50048 = true := by decide +kernel
set_option maxRecDepth 100000 in
theorem fl_b783 : n_all n_ok 6 50112 = true := by decide +kernel
set_option maxRecDepth 100000 in
theorem fl_b784 : n_all n_ok 6 50176 = true := by decide +kernel
set_option maxRecDepth 100000 in
theorem fl_b785 : n_all n_ok 6 50240 = true := by decide +kernel
set_option maxRecDepth 100000 in
theorem fl_b786 : n_all n_ok 6 50304 = true := by decide +kernel
set_option maxRecDepth 100000 in
theorem fl_b787 : n_all n_ok 6 50368 = true := by decide +kernel
set_option maxRecDepth 100000 in
theorem fl_b788 : n_all n_ok 6 50432 = true := by decide +kernel
set_option maxRecDepth 100000 in
theorem fl_b789 : n_all n_ok 6 50496 = true := by decide +kernel
set_option maxRecDepth 100000 in
theorem fl_b790 : n_all n_ok 6 50560 = true := by decide +kernel
set_option maxRecDepth 100000 in
theorem fl_b791 : n_all n_ok 6 50624 = true := by decide +kernel
set_option maxRecDepth 100000 in
theorem fl_b792 : n_all n_ok 6 50688 = true := by decide +kernel
set_option maxRecDepth 100000 in
theorem fl_b793 : n_all n_ok 6 50752 = true := by decide +kernel
set_option maxRecDepth 100000 in
theorem fl_b794 : n_all n_ok 6 50816 = true := by decide +kernel
set_option maxRecDepth 100000 in
theorem fl_b795 : n_all n_ok 6 50880 = true := by decide +kernel
set_option maxRecDepth 100000 in
theorem fl_b796 : n_all n_ok 6 50944 = true := by decide +kernel
set_option maxRecDepth 100000 in
theorem fl_b797 : n_all n_ok 6 51008 = true := by decide +kernel
set_option maxRecDepth 100000 in
theorem fl_b798 : n_all n_ok 6 51072 = true := by decide +kernel
set_option maxRecDepth 100000 in
theorem fl_b799 : n_all n_ok 6 51136 = true := by decide +kernel
set_option maxRecDepth 100000 in
theorem fl_b800 : n_all n_ok 6 51200 = true := by decide +kernel
set_option maxRecDepth 100000 in
theorem fl_b801 : n_all n_ok 6 51264 = true := by decide +kernel
set_option maxRecDepth 100000 in
theorem fl_b802 : n_all n_ok 6 51328 = true := by decide +kernel
set_option maxRecDepth 100000 in
theorem fl_b803 : n_all n_ok 6 51392 = true := by decide +kernel
set_option maxRecDepth 100000 in
theorem fl_b804 : n_all n_ok 6 51456 = true := by decide +kernel
set_option maxRecDepth 100000 in
theorem fl_b805 : n_all n_ok 6 51520 = true := by decide +kernel
set_option maxRecDepth 100000 in
theorem fl_b806 : n_all n_ok 6 51584 = true := by decide +kernel
set_option maxRecDepth 100000 in
theorem fl_b807 : n_all n_ok 6 51648 = true := by decide +kernel
set_option maxRecDepth 100000 in
theorem fl_b808 : n_all n_ok 6 51712 = true := by decide +kernel
set_option maxRecDepth 100000 in
theorem fl_b809 : n_all n_ok 6 51776 = true := by decide +kernel
set_option maxRecDepth 100000 in
theorem fl_b810 : n_all n_ok 6 51840 = true := by decide +kernel
set_option maxRecDepth 100000 in
theorem fl_b811 : n_all n_ok 6 51904 = true := by decide +kernel
set_option maxRecDepth 100000 in
theorem fl_b812 : n_all n_ok 6 51968 = true := by decide +kernel
set_option maxRecDepth 100000 in
theorem fl_b813 : n_all n_ok 6 52032 = true := by decide +kernel
set_option maxRecDepth 100000 in
theorem fl_b814 : n_all n_ok 6 52096 = true := by decide +kernel
set_option maxRecDepth 100000 in
theorem fl_b815 : n_all n_ok 6 52160 = true := by decide +kernel
set_option maxRecDepth 100000 in
theorem fl_b816 : n_all n_ok 6 52224 = true := by decide +kernel
set_option maxRecDepth 100000 in
theorem fl_b817 : n_all n_ok 6 52288 = true := by decide +kernel
set_option maxRecDepth 100000 in
theorem fl_b818 : n_all n_ok 6 52352 = true := by decide +kernel
set_option maxRecDepth 100000 in
theorem fl_b819 : n_all n_ok 6 52416 = true := by decide +kernel
set_option maxRecDepth 100000 in
theorem fl_b820 : n_all n_ok 6 52480 = true := by decide +kernel
set_option maxRecDepth 100000 in
theorem fl_b821 : n_all n_ok 6 52544 = true := by decide +kernel
set_option maxRecDepth 100000 in
theorem fl_b822 : n_all n_ok 6 52608 = true := by decide +kernel
set_option maxRecDepth 100000 in
theorem fl_b823 : n_all n_ok 6 52672 = true := by decide +kernel
set_option maxRecDepth 100000 in
theorem fl_b824 : n_all n_ok 6 52736 = true := by decide +kernel
set_option maxRecDepth 100000 in
theorem fl_b825 : n_all n_ok 6 52800 = true := by decide +kernel
set_option maxRecDepth 100000 in
theorem fl_b826 : n_all n_ok 6 52864 = true := by decide +kernel
set_option maxRecDepth 100000 in
theorem fl_b827 : n_all n_ok 6 52928 = true := by decide +kernel
set_option maxRecDepth 100000 in
theorem fl_b828 : n_all n_ok 6 52992 = true := by decide +kernel
set_option maxRecDepth 100000 in
theorem fl_b829 : n_all n_ok 6 53056 = true := by decide +kernel
set_option maxRecDepth 100000 in
theorem fl_b830 : n_all n_ok 6 53120 = true := by decide +kernel
set_option maxRecDepth 100000 in
theorem fl_b831 : n_all n_ok 6 53184 = true := by decide +kernel
set_option maxRecDepth 100000 in
theorem fl_b832 : n_all n_ok 6 53248 = true := by decide +kernel
set_option maxRecDepth 100000 in
theorem fl_b833 : n_all n_ok 6 53312 = true := by decide +kernel
set_option maxRecDepth 100000 in
theorem fl_b834 : n_all n_ok 6 53376 = true := by decide +kernel
set_option maxRecDepth 100000 in
theorem fl_b835 : n_all n_ok 6 53440 = true := by decide +kernel
set_option maxRecDepth 100000 in
theorem fl_b836 : n_all n_ok 6 53504 = true := by decide +kernel
set_option maxRecDepth 100000 in
theorem fl_b837 : n_all n_ok 6 53568 = true := by decide +kernel
set_option maxRecDepth 100000 in
theorem fl_b838 : n_all n_ok 6 53632 = true := by decide +kernel
set_option maxRecDepth 100000 in
theorem fl_b839 : n_all n_ok 6 53696 = true := by decide +kernel
set_option maxRecDepth 100000 in
theorem fl_b840 : n_all n_ok 6 53760 = true := by decide +kernel
set_option maxRecDepth 100000 in
theorem fl_b841 : n_all n_ok 6 53824 = true := by decide +kernel
set_option maxRecDepth 100000 in
theorem fl_b842 : n_all n_ok 6 53888 = true := by decide +kernel
set_option maxRecDepth 100000 in
theorem fl_b843 : n_all n_ok 6 53952 = true := by decide +kernel
set_option maxRecDepth 100000 in
theorem fl_b844 : n_all n_ok 6 54016 = true := by decide +kernel
set_option maxRecDepth 100000 in
theorem fl_b845 : n_all n_ok 6 54080 = true := by decide +kernel
set_option maxRecDepth 100000 in
theorem fl_b846 : n_all n_ok 6 54144 = true := by decide +kernel
set_option maxRecDepth 100000 in
theorem fl_b847 : n_all n_ok 6 54208 = true := by decide +kernel
set_option maxRecDepth 100000 in
theorem fl_b848 : n_all n_ok 6 54272 = true := by decide +kernel
set_option maxRecDepth 100000 in
theorem fl_b849 : n_all n_ok 6 54336 = true := by decide +kernel
set_option maxRecDepth 100000 in
theorem fl_b850 : n_all n_ok 6 54400 = true := by decide +kernel
set_option maxRecDepth 100000 in
theorem fl_b851 : n_all n_ok 6 54464 = true := by decide +kernel
set_option maxRecDepth 100000 in
theorem fl_b852 : n_all n_ok 6 54528 = true := by decide +kernel
set_option maxRecDepth 100000 in
theorem fl_b853 : n_all n_ok 6 54592 = true := by decide +kernel
set_option maxRecDepth 100000 in
theorem fl_b854 : n_all n_ok 6 54656 = true := by decide +kernel
set_option maxRecDepth 100000 in
theorem fl_b855 : n_all n_ok 6 54720 = true := by decide +kernel
set_option maxRecDepth 100000 in
theorem fl_b856 : n_all n_ok 6 54784 = true := by decide +kernel
set_option maxRecDepth 100000 in
theorem fl_b857 : n_all n_ok 6 54848 = true := by decide +kernel
set_option maxRecDepth 100000 in
theorem fl_b858 : n_all n_ok 6 54912 = true := by decide +kernel
set_option maxRecDepth 100000 in
theorem fl_b859 : n_all n_ok 6 54976 = true := by decide +kernel
set_option maxRecDepth 100000 in
theorem fl_b860 : n_all n_ok 6 55040 = true := by decide +kernel
set_option maxRecDepth 100000 in
theorem fl_b861 : n_all n_ok 6 55104 = true := by decide +kernel
set_option maxRecDepth 100000 in
theorem fl_b862 : n_all n_ok 6 55168 = true := by decide +kernel
set_option maxRecDepth 100000 in
theorem fl_b863 : n_all n_ok 6 55232 = true := by decide +kernel
set_option maxRecDepth 100000 in
theorem fl_b864 : n_all n_ok 6 55296 = true := by decide +kernel
set_option maxRecDepth 100000 in
theorem fl_b865 : n_all n_ok 6 55360 = true := by decide +kernel
set_option maxRecDepth 100000 in
theorem fl_b866 : n_all n_ok 6 55424 = true := by decide +kernel
set_option maxRecDepth 100000 in
theorem fl_b867 : n_all n_ok 6 55488 = true := by decide +kernel
set_option maxRecDepth 100000 in
theorem fl_b868 : n_all n_ok 6 55552 = true := by decide +kernel
set_option maxRecDepth 100000 in
theorem fl_b869 : n_all n_ok 6 55616 = true := by decide +kernel
set_option maxRecDepth 100000 in
theorem fl_b870 : n_all n_ok 6 55680 = true := by decide +kernel
set_option maxRecDepth 100000 in
theorem fl_b871 : n_all n_ok 6 55744 = true := by decide +kernel
set_option maxRecDepth 100000 in
theorem fl_b872 : n_all n_ok 6 55808 = true := by decide +kernel
set_option maxRecDepth 100000 in
theorem fl_b873 : n_all n_ok 6 55872 = true := by decide +kernel
set_option maxRecDepth 100000 in
theorem fl_b874 : n_all n_ok 6 55936 = true := by decide +kernel
set_option maxRecDepth 100000 in
theorem fl_b875 : n_all n_ok 6 56000 = true := by decide +kernel
set_option maxRecDepth 100000 in
theorem fl_b876 : n_all n_ok 6 56064 = true := by decide +kernel
set_option maxRecDepth 100000 in
theorem fl_b877 : n_all n_ok 6 56128 = true := by decide +kernel
set_option maxRecDepth 100000 in
theorem fl_b878 : n_all n_ok 6 56192 = true := by decide +kernel
set_option maxRecDepth 100000 in
theorem fl_b879 : n_all n_ok 6 56256 = true := by decide +kernel
set_option maxRecDepth 100000 in
theorem fl_b880 : n_all n_ok 6 56320 = true := by decide +kernel
set_option maxRecDepth 100000 in
theorem fl_b881 : n_all n_ok 6 56384 = true := by decide +kernel
set_option maxRecDepth 100000 in
theorem fl_b882 : n_all n_ok 6 56448 = true := by decide +kernel
set_option maxRecDepth 100000 in
theorem fl_b883 : n_all n_ok 6 56512 = true := by decide +kernel
set_option maxRecDepth 100000 in
theorem fl_b884 : n_all n_ok 6 56576 = true := by decide +kernel
set_option maxRecDepth 100000 in
theorem fl_b885 : n_all n_ok 6 56640 = true := by decide +kernel
set_option maxRecDepth 100000 in
theorem fl_b886 : n_all n_ok 6 56704 = true := by decide +kernel
set_option maxRecDepth 100000 in
theorem fl_b887 : n_all n_ok 6 56768 = true := by decide +kernel
set_option maxRecDepth 100000 in
theorem fl_b888 : n_all n_ok 6 56832 = true := by decide +kernel
set_option maxRecDepth 100000 in
theorem fl_b889 : n_all n_ok 6 56896 = true := by decide +kernel
set_option maxRecDepth 100000 in
theorem fl_b890 : n_all n_ok 6 56960 = true := by decide +kernel
set_option maxRecDepth 100000 in
theorem fl_b891 : n_all n_ok 6 57024 = true := by decide +kernel
set_option maxRecDepth 100000 in
theorem fl_b892 : n_all n_ok 6 57088 = true := by decide +kernel
set_option maxRecDepth 100000 in
theorem fl_b893 : n_all n_ok 6 57152 = true := by decide +kernel
set_option maxRecDepth 100000 in
theorem fl_b894 : n_all n_ok 6 57216 = true := by decide +kernel
set_option maxRecDepth 100000 in
theorem fl_b895 : n_all n_ok 6 57280 = true := by decide +kernel
theorem fl_r6_0 : fl_R 49152 49216 := fl_L 49152 fl_b768
theorem fl_r6_1 : fl_R 49152 49280 := fl_J fl_r6_0 (fl_L 49216 fl_b769)
theorem fl_r6_2 : fl_R 49152 49344 := fl_J fl_r6_1 (fl_L 49280 fl_b770)
theorem fl_r6_3 : fl_R 49152 49408 := fl_J fl_r6_2 (fl_L 49344 fl_b771)
theorem fl_r6_4 : fl_R 49152 49472 := fl_J fl_r6_3 (fl_L 49408 fl_b772)
theorem fl_r6_5 : fl_R 49152 49536 := fl_J fl_r6_4 (fl_L 49472 fl_b773)
theorem fl_r6_6 : fl_R 49152 49600 := fl_J fl_r6_5 (fl_L 49536 fl_b774)
theorem fl_r6_7 : fl_R 49152 49664 := fl_J fl_r6_6 (fl_L 49600 fl_b775)
theorem fl_r6_8 : fl_R 49152 49728 := fl_J fl_r6_7 (fl_L 49664 fl_b776)
theorem fl_r6_9 : fl_R 49152 49792 := fl_J fl_r6_8 (fl_L 49728 fl_b777)
theorem fl_r6_10 : fl_R 49152 49856 := fl_J fl_r6_9 (fl_L 49792 fl_b778)
theorem fl_r6_11 : fl_R 49152 49920 := fl_J fl_r6_10 (fl_L 49856 fl_b779)
theorem fl_r6_12 : fl_R 49152 49984 := fl_J fl_r6_11 (fl_L 49920 fl_b780)
theorem fl_r6_13 : fl_R 49152 50048 := fl_J fl_r6_12 (fl_L 49984 fl_b781)
theorem fl_r6_14 : fl_R 49152 50112 := fl_J fl_r6_13 (fl_L 50048 fl_b782)
theorem fl_r6_15 : fl_R 49152 50176 := fl_J fl_r6_14 (fl_L 50112 fl_b783)
theorem fl_r6_16 : fl_R 49152 50240 := fl_J fl_r6_15 (fl_L 50176 fl_b784)
theorem fl_r6_17 : fl_R 49152 50304 := fl_J fl_r6_16 (fl_L 50240 fl_b785)
theorem fl_r6_18 : fl_R 49152 50368 := fl_J fl_r6_17 (fl_L 50304 fl_b786)
theorem fl_r6_19 : fl_R 49152 50432 := fl_J fl_r6_18 (fl_L 50368 fl_b787)
theorem fl_r6_20 : fl_R 49152 50496 := fl_J fl_r6_19 (fl_L 50432 fl_b788)
theorem fl_r6_21 : fl_R 49152 50560 := fl_J fl_r6_20 (fl_L 50496 fl_b789)
theorem fl_r6_22 : fl_R 49152 50624 := fl_J fl_r6_21 (fl_L 50560 fl_b790)
theorem fl_r6_23 : fl_R 49152 50688 := fl_J fl_r6_22 (fl_L 50624 fl_b791)
theorem fl_r6_24 : fl_R 49152 50752 := fl_J fl_r6_23 (fl_L 50688 fl_b792)
theorem fl_r6_25 : fl_R 49152 50816 := fl_J fl_r6_24 (fl_L 50752 fl_b793)
theorem fl_r6_26 : fl_R 49152 50880 := fl_J fl_r6_25 (fl_L 50816 fl_b794)
theorem fl_r6_27 : fl_R 49152 50944 := fl_J fl_r6_26 (fl_L 50880 fl_b795)
theorem fl_r6_28 : fl_R 49152 51008 := fl_J fl_r6_27 (fl_L 50944 fl_b796)
theorem fl_r6_29 : fl_R 49152 51072 := fl_J fl_r6_28 (fl_L 51008 fl_b797)
theorem fl_r6_30 : fl_R 49152 51136 := fl_J fl_r6_29 (fl_L 51072 fl_b798)
theorem fl_r6_31 : fl_R 49152 51200 := fl_J fl_r6_30 (fl_L 51136 fl_b799)
theorem fl_r6_32 : fl_R 49152 51264 := fl_J fl_r6_31 (fl_L 51200 fl_b800)
theorem fl_r6_33 : fl_R 49152 51328 := fl_J fl_r6_32 (fl_L 51264 fl_b801)
theorem fl_r6_34 : fl_R 49152 51392 := fl_J fl_r6_33 (fl_L 51328 fl_b802)
theorem fl_r6_35 : fl_R 49152 51456 := fl_J fl_r6_34 (fl_L 51392 fl_b803)
theorem fl_r6_36 : fl_R 49152 51520 := fl_J fl_r6_35 (fl_L 51456 fl_b804)
theorem fl_r6_37 : fl_R 49152 51584 := fl_J fl_r6_36 (fl_L 51520 fl_b805)
theorem fl_r6_38 : fl_R 49152 51648 := fl_J fl_r6_37 (fl_L 51584 fl_b806)
theorem fl_r6_39 : fl_R 49152 51712 := fl_J fl_r6_38 (fl_L 51648 fl_b807)
theorem fl_r6_40 : fl_R 49152 51776 := fl_J fl_r6_39 (fl_L 51712 fl_b808)
theorem fl_r6_41 : fl_R 49152 51840 := fl_J fl_r6_40 (fl_L 51776 fl_b809)
theorem fl_r6_42 : fl_R 49152 51904 := fl_J fl_r6_41 (fl_L 51840 fl_b810)
theorem fl_r6_43 : fl_R 49152 51968 := fl_J fl_r6_42 (fl_L 51904 fl_b811)
theorem fl_r6_44 : fl_R 49152 52032 := fl_J fl_r6_43 (fl_L 51968 fl_b812)
theorem fl_r6_45 : fl_R 49152 52096 := fl_J fl_r6_44 (fl_L 52032 fl_b813)
theorem fl_r6_46 : fl_R 49152 52160 := fl_J fl_r6_45 (fl_L 52096 fl_b814)
theorem fl_r6_47 : fl_R 49152 52224 := fl_J fl_r6_46 (fl_L 52160 fl_b815)
theorem fl_r6_48 : fl_R 49152 52288 := fl_J fl_r6_47 (fl_L 52224 fl_b816)
theorem fl_r6_49 : fl_R 49152 52352 := fl_J fl_r6_48 (fl_L 52288 fl_b817)
theorem fl_r6_50 : fl_R 49152 52416 := fl_J fl_r6_49 (fl_L 52352 fl_b818)
theorem fl_r6_51 : fl_R 49152 52480 := fl_J fl_r6_50 (fl_L 52416 fl_b819)
theorem fl_r6_52 : fl_R 49152 52544 := fl_J fl_r6_51 (fl_L 52480 fl_b820)
theorem fl_r6_53 : fl_R 49152 52608 := fl_J fl_r6_52 (fl_L 52544 fl_b821)
theorem fl_r6_54 : fl_R 49152 52672 := fl_J fl_r6_53 (fl_L 52608 fl_b822)
theorem fl_r6_55 : fl_R 49152 52736 := fl_J fl_r6_54 (fl_L 52672 fl_b823)
theorem fl_r6_56 : fl_R 49152 52800 := fl_J fl_r6_55 (fl_L 52736 fl_b824)
theorem fl_r6_57 : fl_R 49152 52864 := fl_J fl_r6_56 (fl_L 52800 fl_b825)
theorem fl_r6_58 : fl_R 49152 52928 := fl_J fl_r6_57 (fl_L 52864 fl_b826)
theorem fl_r6_59 : fl_R 49152 52992 := fl_J fl_r6_58 (fl_L 52928 fl_b827)
theorem fl_r6_60 : fl_R 49152 53056 := fl_J fl_r6_59 (fl_L 52992 fl_b828)
theorem fl_r6_61 : fl_R 49152 53120 := fl_J fl_r6_60 (fl_L 53056 fl_b829)
theorem fl_r6_62 : fl_R 49152 53184 := fl_J fl_r6_61 (fl_L 53120 fl_b830)
theorem fl_r6_63 : fl_R 49152 53248 := fl_J fl_r6_62 (fl_L 53184 fl_b831)
theorem fl_r6_64 : fl_R 49152 53312 := fl_J fl_r6_63 (fl_L 53248 fl_b832)
theorem fl_r6_65 : fl_R 49152 53376 := fl_J fl_r6_64 (fl_L 53312 fl_b833)
theorem fl_r6_66 : fl_R 49152 53440 := fl_J fl_r6_65 (fl_L 53376 fl_b834)
theorem fl_r6_67 : fl_R 49152 53504 := fl_J fl_r6_66 (fl_L 53440 fl_b835)
theorem fl_r6_68 : fl_R 49152 53568 := fl_J fl_r6_67 (fl_L 53504 fl_b836)
theorem fl_r6_69 : fl_R 49152 53632 := fl_J fl_r6_68 (fl_L 53568 fl_b837)
theorem fl_r6_70 : fl_R 49152 53696 := fl_J fl_r6_69 (fl_L 53632 fl_b838)
theorem fl_r6_71 : fl_R 49152 53760 := fl_J fl_r6_70 (fl_L 53696 fl_b839)
theorem fl_r6_72 : fl_R 49152 53824 := fl_J fl_r6_71 (fl_L 53760 fl_b840)
theorem fl_r6_73 : fl_R 49152 53888 := fl_J fl_r6_72 (fl_L 53824 fl_b841)
theorem fl_r6_74 : fl_R 49152 53952 := fl_J fl_r6_73 (fl_L 53888 fl_b842)
theorem fl_r6_75 : fl_R 49152 54016 := fl_J fl_r6_74 (fl_L 53952 fl_b843)
theorem fl_r6_76 : fl_R 49152 54080 := fl_J fl_r6_75 (fl_L 54016 fl_b844)
theorem fl_r6_77 : fl_R 49152 54144 := fl_J fl_r6_76 (fl_L 54080 fl_b845)
theorem fl_r6_78 : fl_R 49152 54208 := fl_J fl_r6_77 (fl_L 54144 fl_b846)
theorem fl_r6_79 : fl_R 49152 54272 := fl_J fl_r6_78 (fl_L 54208 fl_b847)
theorem fl_r6_80 : fl_R 49152 54336 := fl_J fl_r6_79 (fl_L 54272 fl_b848)
theorem fl_r6_81 : fl_R 49152 54400 := fl_J fl_r6_80 (fl_L 54336 fl_b849)
theorem fl_r6_82 : fl_R 49152 54464 := fl_J fl_r6_81 (fl_L 54400 fl_b850)
theorem fl_r6_83 : fl_R 49152 54528 := fl_J fl_r6_82 (fl_L 54464 fl_b851)
theorem fl_r6_84 : fl_R 49152 54592 := fl_J fl_r6_83 (fl_L 54528 fl_b852)
theorem fl_r6_85 : fl_R 49152 54656 := fl_J fl_r6_84 (fl_L 54592 fl_b853)
theorem fl_r6_86 : fl_R 49152 54720 := fl_J fl_r6_85 (fl_L 54656 fl_b854)
theorem fl_r6_87 : fl_R 49152 54784 := fl_J fl_r6_86 (fl_L 54720 fl_b855)
theorem fl_r6_88 : fl_R 49152 54848 := fl_J fl_r6_87 (fl_L 54784 fl_b856)
theorem fl_r6_89 : fl_R 49152 54912 := fl_J fl_r6_88 (fl_L 54848 fl_b857)
theorem fl_r6_90 : fl_R 49152 54976 := fl_J fl_r6_89 (fl_L 54912 fl_b858)
theorem fl_r6_91 : fl_R 49152 55040 := fl_J fl_r6_90 (fl_L 54976 fl_b859)
theorem fl_r6_92 : fl_R 49152 55104 := fl_J fl_r6_91 (fl_L 55040 fl_b860)
theorem fl_r6_93 : fl_R 49152 55168 := fl_J fl_r6_92 (fl_L 55104 fl_b861)
theorem fl_r6_94 : fl_R 49152 55232 := fl_J fl_r6_93 (fl_L 55168 fl_b862)
theorem fl_r6_95 : fl_R 49152 55296 := fl_J fl_r6_94 (fl_L 55232 fl_b863)
theorem fl_r6_96 : fl_R 49152 55360 := fl_J fl_r6_95 (fl_L 55296 fl_b864)
theorem fl_r6_97 : fl_R 49152 55424 := fl_J fl_r6_96 (fl_L 55360 fl_b865)
theorem fl_r6_98 : fl_R 49152 55488 := fl_J fl_r6_97 (fl_L 55424 fl_b866)
theorem fl_r6_99 : fl_R 49152 55552 := fl_J fl_r6_98 (fl_L 55488 fl_b867)
theorem fl_r6_100 : fl_R 49152 55616 := fl_J fl_r6_99 (fl_L 55552 fl_b868)
theorem fl_r6_101 : fl_R 49152 55680 := fl_J fl_r6_100 (fl_L 55616 fl_b869)
theorem fl_r6_102 : fl_R 49152 55744 := fl_J fl_r6_101 (fl_L 55680 fl_b870)
theorem fl_r6_103 : fl_R 49152 55808 := fl_J fl_r6_102 (fl_L 55744 fl_b871)
theorem fl_r6_104 : fl_R 49152 55872 := fl_J fl_r6_103 (fl_L 55808 fl_b872)
theorem fl_r6_105 : fl_R 49152 55936 := fl_J fl_r6_104 (fl_L 55872 fl_b873)
theorem fl_r6_106 : fl_R 49152 56000 := fl_J fl_r6_105 (fl_L 55936 fl_b874)
theorem fl_r6_107 : fl_R 49152 56064 := fl_J fl_r6_106 (fl_L 56000 fl_b875)
theorem fl_r6_108 : fl_R 49152 56128 := fl_J fl_r6_107 (fl_L 56064 fl_b876)
theorem fl_r6_109 : fl_R 49152 56192 := fl_J fl_r6_108 (fl_L 56128 fl_b877)
theorem fl_r6_110 : fl_R 49152 56256 := fl_J fl_r6_109 (fl_L 56192 fl_b878)
theorem fl_r6_111 : fl_R 49152 56320 := fl_J fl_r6_110 (fl_L 56256 fl_b879)
theorem fl_r6_112 : fl_R 49152 56384 := fl_J fl_r6_111 (fl_L 56320 fl_b880)
theorem fl_r6_113 : fl_R 49152 56448 := fl_J fl_r6_112 (fl_L 56384 fl_b881)
theorem fl_r6_114 : fl_R 49152 56512 := fl_J fl_r6_113 (fl_L 56448 fl_b882)
theorem fl_r6_115 : fl_R 49152 56576 := fl_J fl_r6_114 (fl_L 56512 fl_b883)
theorem fl_r6_116 : fl_R 49152 56640 := fl_J fl_r6_115 (fl_L 56576 fl_b884)
theorem fl_r6_117 : fl_R 49152 56704 := fl_J fl_r6_116 (fl_L 56640 fl_b885)
theorem fl_r6_118 : fl_R 49152 56768 := fl_J fl_r6_117 (fl_L 56704 fl_b886)
theorem fl_r6_119 : fl_R 49152 56832 := fl_J fl_r6_118 (fl_L 56768 fl_b887)
theorem fl_r6_120 : fl_R 49152 56896 := fl_J fl_r6_119 (fl_L 56832 fl_b888)
theorem fl_r6_121 : fl_R 49152 56960 := fl_J fl_r6_120 (fl_L 56896 fl_b889)
theorem fl_r6_122 : fl_R 49152 57024 := fl_J fl_r6_121 (fl_L 56960 fl_b890)
theorem fl_r6_123 : fl_R 49152 57088 := fl_J fl_r6_122 (fl_L 57024 fl_b891)
theorem fl_r6_124 : fl_R 49152 57152 := fl_J fl_r6_123 (fl_L 57088 fl_b892)
theorem fl_r6_125 : fl_R 49152 57216 := fl_J fl_r6_124 (fl_L 57152 fl_b893)
theorem fl_r6_126 : fl_R 49152 57280 := fl_J fl_r6_125 (fl_L 57216 fl_b894)
theorem fl_r6_127 : fl_R 49152 57344 := fl_J fl_r6_126 (fl_L 57280 fl_b895)
theorem fl_R6 : fl_R 49152 57344 := fl_r6_127
