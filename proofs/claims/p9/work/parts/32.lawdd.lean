theorem dL_law_803_c : decode cL_law 803 = .ok (.iaload, 1) ∧ decode cL_law 804 = .ok (.aload_n 0, 1) ∧ decode cL_law 805 = .ok (.iload 4, 2) ∧ decode cL_law 807 = .ok (.iconst 2, 1) ∧ decode cL_law 808 = .ok (.iadd, 1) ∧ decode cL_law 809 = .ok (.iaload, 1) ∧ decode cL_law 810 = .ok (.aload_n 3, 1) ∧ decode cL_law 811 = .ok (.invokestatic 166, 3) ∧ decode cL_law 814 = .ok (.istore 5, 2) ∧ decode cL_law 816 = .ok (.aload_n 2, 1) ∧ decode cL_law 817 = .ok (.aload_n 0, 1) ∧ decode cL_law 818 = .ok (.iload 4, 2) ∧ decode cL_law 820 = .ok (.iconst 1, 1) ∧ decode cL_law 821 = .ok (.iadd, 1) ∧ decode cL_law 822 = .ok (.iaload, 1) ∧ decode cL_law 823 = .ok (.aload_n 0, 1) := by decide +kernel
theorem dL_law_803 : decode cL_law 803 = .ok (.iaload, 1) := dL_law_803_c.1
theorem dL_law_804 : decode cL_law 804 = .ok (.aload_n 0, 1) := dL_law_803_c.2.1
theorem dL_law_805 : decode cL_law 805 = .ok (.iload 4, 2) := dL_law_803_c.2.2.1
theorem dL_law_807 : decode cL_law 807 = .ok (.iconst 2, 1) := dL_law_803_c.2.2.2.1
theorem dL_law_808 : decode cL_law 808 = .ok (.iadd, 1) := dL_law_803_c.2.2.2.2.1
theorem dL_law_809 : decode cL_law 809 = .ok (.iaload, 1) := dL_law_803_c.2.2.2.2.2.1
theorem dL_law_810 : decode cL_law 810 = .ok (.aload_n 3, 1) := dL_law_803_c.2.2.2.2.2.2.1
theorem dL_law_811 : decode cL_law 811 = .ok (.invokestatic 166, 3) := dL_law_803_c.2.2.2.2.2.2.2.1
theorem dL_law_814 : decode cL_law 814 = .ok (.istore 5, 2) := dL_law_803_c.2.2.2.2.2.2.2.2.1
theorem dL_law_816 : decode cL_law 816 = .ok (.aload_n 2, 1) := dL_law_803_c.2.2.2.2.2.2.2.2.2.1
theorem dL_law_817 : decode cL_law 817 = .ok (.aload_n 0, 1) := dL_law_803_c.2.2.2.2.2.2.2.2.2.2.1
theorem dL_law_818 : decode cL_law 818 = .ok (.iload 4, 2) := dL_law_803_c.2.2.2.2.2.2.2.2.2.2.2.1
theorem dL_law_820 : decode cL_law 820 = .ok (.iconst 1, 1) := dL_law_803_c.2.2.2.2.2.2.2.2.2.2.2.2.1
theorem dL_law_821 : decode cL_law 821 = .ok (.iadd, 1) := dL_law_803_c.2.2.2.2.2.2.2.2.2.2.2.2.2.1
theorem dL_law_822 : decode cL_law 822 = .ok (.iaload, 1) := dL_law_803_c.2.2.2.2.2.2.2.2.2.2.2.2.2.2.1
theorem dL_law_823 : decode cL_law 823 = .ok (.aload_n 0, 1) := dL_law_803_c.2.2.2.2.2.2.2.2.2.2.2.2.2.2.2
theorem dL_law_824_c : decode cL_law 824 = .ok (.iload 4, 2) ∧ decode cL_law 826 = .ok (.iconst 2, 1) ∧ decode cL_law 827 = .ok (.iadd, 1) ∧ decode cL_law 828 = .ok (.iaload, 1) ∧ decode cL_law 829 = .ok (.invokevirtual 168, 3) ∧ decode cL_law 832 = .ok (.istore 6, 2) ∧ decode cL_law 834 = .ok (.goto 839, 3) ∧ decode cL_law 837 = .ok (.aload_n 1, 1) ∧ decode cL_law 838 = .ok (.aload_n 0, 1) ∧ decode cL_law 839 = .ok (.iload 4, 2) ∧ decode cL_law 841 = .ok (.iconst 1, 1) ∧ decode cL_law 842 = .ok (.iadd, 1) ∧ decode cL_law 843 = .ok (.iaload, 1) ∧ decode cL_law 844 = .ok (.aload_n 3, 1) ∧ decode cL_law 845 = .ok (.invokestatic 169, 3) ∧ decode cL_law 848 = .ok (.istore 5, 2) := by decide +kernel
theorem dL_law_824 : decode cL_law 824 = .ok (.iload 4, 2) := dL_law_824_c.1
theorem dL_law_826 : decode cL_law 826 = .ok (.iconst 2, 1) := dL_law_824_c.2.1
theorem dL_law_827 : decode cL_law 827 = .ok (.iadd, 1) := dL_law_824_c.2.2.1
theorem dL_law_828 : decode cL_law 828 = .ok (.iaload, 1) := dL_law_824_c.2.2.2.1
theorem dL_law_829 : decode cL_law 829 = .ok (.invokevirtual 168, 3) := dL_law_824_c.2.2.2.2.1
theorem dL_law_832 : decode cL_law 832 = .ok (.istore 6, 2) := dL_law_824_c.2.2.2.2.2.1
theorem dL_law_834 : decode cL_law 834 = .ok (.goto 839, 3) := dL_law_824_c.2.2.2.2.2.2.1
theorem dL_law_837 : decode cL_law 837 = .ok (.aload_n 1, 1) := dL_law_824_c.2.2.2.2.2.2.2.1
theorem dL_law_838 : decode cL_law 838 = .ok (.aload_n 0, 1) := dL_law_824_c.2.2.2.2.2.2.2.2.1
theorem dL_law_839 : decode cL_law 839 = .ok (.iload 4, 2) := dL_law_824_c.2.2.2.2.2.2.2.2.2.1
theorem dL_law_841 : decode cL_law 841 = .ok (.iconst 1, 1) := dL_law_824_c.2.2.2.2.2.2.2.2.2.2.1
theorem dL_law_842 : decode cL_law 842 = .ok (.iadd, 1) := dL_law_824_c.2.2.2.2.2.2.2.2.2.2.2.1
theorem dL_law_843 : decode cL_law 843 = .ok (.iaload, 1) := dL_law_824_c.2.2.2.2.2.2.2.2.2.2.2.2.1
theorem dL_law_844 : decode cL_law 844 = .ok (.aload_n 3, 1) := dL_law_824_c.2.2.2.2.2.2.2.2.2.2.2.2.2.1
theorem dL_law_845 : decode cL_law 845 = .ok (.invokestatic 169, 3) := dL_law_824_c.2.2.2.2.2.2.2.2.2.2.2.2.2.2.1
theorem dL_law_848 : decode cL_law 848 = .ok (.istore 5, 2) := dL_law_824_c.2.2.2.2.2.2.2.2.2.2.2.2.2.2.2
theorem dL_law_850_c : decode cL_law 850 = .ok (.aload_n 2, 1) ∧ decode cL_law 851 = .ok (.aload_n 0, 1) ∧ decode cL_law 852 = .ok (.iload 4, 2) ∧ decode cL_law 854 = .ok (.iconst 1, 1) ∧ decode cL_law 855 = .ok (.iadd, 1) ∧ decode cL_law 856 = .ok (.iaload, 1) ∧ decode cL_law 857 = .ok (.invokevirtual 171, 3) ∧ decode cL_law 860 = .ok (.istore 6, 2) ∧ decode cL_law 862 = .ok (.goto 811, 3) ∧ decode cL_law 865 = .ok (.aload_n 1, 1) ∧ decode cL_law 866 = .ok (.aload_n 0, 1) ∧ decode cL_law 867 = .ok (.iload 4, 2) ∧ decode cL_law 869 = .ok (.iconst 1, 1) ∧ decode cL_law 870 = .ok (.iadd, 1) ∧ decode cL_law 871 = .ok (.iaload, 1) ∧ decode cL_law 872 = .ok (.aload_n 0, 1) := by decide +kernel
theorem dL_law_850 : decode cL_law 850 = .ok (.aload_n 2, 1) := dL_law_850_c.1
theorem dL_law_851 : decode cL_law 851 = .ok (.aload_n 0, 1) := dL_law_850_c.2.1
theorem dL_law_852 : decode cL_law 852 = .ok (.iload 4, 2) := dL_law_850_c.2.2.1
theorem dL_law_854 : decode cL_law 854 = .ok (.iconst 1, 1) := dL_law_850_c.2.2.2.1
theorem dL_law_855 : decode cL_law 855 = .ok (.iadd, 1) := dL_law_850_c.2.2.2.2.1
theorem dL_law_856 : decode cL_law 856 = .ok (.iaload, 1) := dL_law_850_c.2.2.2.2.2.1
theorem dL_law_857 : decode cL_law 857 = .ok (.invokevirtual 171, 3) := dL_law_850_c.2.2.2.2.2.2.1
theorem dL_law_860 : decode cL_law 860 = .ok (.istore 6, 2) := dL_law_850_c.2.2.2.2.2.2.2.1
theorem dL_law_862 : decode cL_law 862 = .ok (.goto 811, 3) := dL_law_850_c.2.2.2.2.2.2.2.2.1
theorem dL_law_865 : decode cL_law 865 = .ok (.aload_n 1, 1) := dL_law_850_c.2.2.2.2.2.2.2.2.2.1
theorem dL_law_866 : decode cL_law 866 = .ok (.aload_n 0, 1) := dL_law_850_c.2.2.2.2.2.2.2.2.2.2.1
theorem dL_law_867 : decode cL_law 867 = .ok (.iload 4, 2) := dL_law_850_c.2.2.2.2.2.2.2.2.2.2.2.1
theorem dL_law_869 : decode cL_law 869 = .ok (.iconst 1, 1) := dL_law_850_c.2.2.2.2.2.2.2.2.2.2.2.2.1
theorem dL_law_870 : decode cL_law 870 = .ok (.iadd, 1) := dL_law_850_c.2.2.2.2.2.2.2.2.2.2.2.2.2.1
theorem dL_law_871 : decode cL_law 871 = .ok (.iaload, 1) := dL_law_850_c.2.2.2.2.2.2.2.2.2.2.2.2.2.2.1
theorem dL_law_872 : decode cL_law 872 = .ok (.aload_n 0, 1) := dL_law_850_c.2.2.2.2.2.2.2.2.2.2.2.2.2.2.2
theorem dL_law_873_c : decode cL_law 873 = .ok (.iload 4, 2) ∧ decode cL_law 875 = .ok (.iconst 2, 1) ∧ decode cL_law 876 = .ok (.iadd, 1) ∧ decode cL_law 877 = .ok (.iaload, 1) ∧ decode cL_law 878 = .ok (.aload_n 0, 1) ∧ decode cL_law 879 = .ok (.iload 4, 2) ∧ decode cL_law 881 = .ok (.iconst 3, 1) ∧ decode cL_law 882 = .ok (.iadd, 1) ∧ decode cL_law 883 = .ok (.iaload, 1) ∧ decode cL_law 884 = .ok (.aload_n 3, 1) ∧ decode cL_law 885 = .ok (.invokestatic 172, 3) ∧ decode cL_law 888 = .ok (.istore 5, 2) ∧ decode cL_law 890 = .ok (.aload_n 2, 1) ∧ decode cL_law 891 = .ok (.aload_n 0, 1) ∧ decode cL_law 892 = .ok (.iload 4, 2) ∧ decode cL_law 894 = .ok (.iconst 1, 1) := by decide +kernel
theorem dL_law_873 : decode cL_law 873 = .ok (.iload 4, 2) := dL_law_873_c.1
theorem dL_law_875 : decode cL_law 875 = .ok (.iconst 2, 1) := dL_law_873_c.2.1
theorem dL_law_876 : decode cL_law 876 = .ok (.iadd, 1) := dL_law_873_c.2.2.1
theorem dL_law_877 : decode cL_law 877 = .ok (.iaload, 1) := dL_law_873_c.2.2.2.1
theorem dL_law_878 : decode cL_law 878 = .ok (.aload_n 0, 1) := dL_law_873_c.2.2.2.2.1
theorem dL_law_879 : decode cL_law 879 = .ok (.iload 4, 2) := dL_law_873_c.2.2.2.2.2.1
theorem dL_law_881 : decode cL_law 881 = .ok (.iconst 3, 1) := dL_law_873_c.2.2.2.2.2.2.1
theorem dL_law_882 : decode cL_law 882 = .ok (.iadd, 1) := dL_law_873_c.2.2.2.2.2.2.2.1
theorem dL_law_883 : decode cL_law 883 = .ok (.iaload, 1) := dL_law_873_c.2.2.2.2.2.2.2.2.1
theorem dL_law_884 : decode cL_law 884 = .ok (.aload_n 3, 1) := dL_law_873_c.2.2.2.2.2.2.2.2.2.1
theorem dL_law_885 : decode cL_law 885 = .ok (.invokestatic 172, 3) := dL_law_873_c.2.2.2.2.2.2.2.2.2.2.1
theorem dL_law_888 : decode cL_law 888 = .ok (.istore 5, 2) := dL_law_873_c.2.2.2.2.2.2.2.2.2.2.2.1
theorem dL_law_890 : decode cL_law 890 = .ok (.aload_n 2, 1) := dL_law_873_c.2.2.2.2.2.2.2.2.2.2.2.2.1
theorem dL_law_891 : decode cL_law 891 = .ok (.aload_n 0, 1) := dL_law_873_c.2.2.2.2.2.2.2.2.2.2.2.2.2.1
theorem dL_law_892 : decode cL_law 892 = .ok (.iload 4, 2) := dL_law_873_c.2.2.2.2.2.2.2.2.2.2.2.2.2.2.1
theorem dL_law_894 : decode cL_law 894 = .ok (.iconst 1, 1) := dL_law_873_c.2.2.2.2.2.2.2.2.2.2.2.2.2.2.2
theorem dL_law_895_c : decode cL_law 895 = .ok (.iadd, 1) ∧ decode cL_law 896 = .ok (.iaload, 1) ∧ decode cL_law 897 = .ok (.aload_n 0, 1) ∧ decode cL_law 898 = .ok (.iload 4, 2) ∧ decode cL_law 900 = .ok (.iconst 2, 1) ∧ decode cL_law 901 = .ok (.iadd, 1) ∧ decode cL_law 902 = .ok (.iaload, 1) ∧ decode cL_law 903 = .ok (.aload_n 0, 1) ∧ decode cL_law 904 = .ok (.iload 4, 2) ∧ decode cL_law 906 = .ok (.iconst 3, 1) ∧ decode cL_law 907 = .ok (.iadd, 1) ∧ decode cL_law 908 = .ok (.iaload, 1) ∧ decode cL_law 909 = .ok (.invokevirtual 174, 3) ∧ decode cL_law 912 = .ok (.istore 6, 2) ∧ decode cL_law 914 = .ok (.goto 759, 3) ∧ decode cL_law 917 = .ok (.aload_n 1, 1) := by decide +kernel
theorem dL_law_895 : decode cL_law 895 = .ok (.iadd, 1) := dL_law_895_c.1
theorem dL_law_896 : decode cL_law 896 = .ok (.iaload, 1) := dL_law_895_c.2.1
theorem dL_law_897 : decode cL_law 897 = .ok (.aload_n 0, 1) := dL_law_895_c.2.2.1
theorem dL_law_898 : decode cL_law 898 = .ok (.iload 4, 2) := dL_law_895_c.2.2.2.1
theorem dL_law_900 : decode cL_law 900 = .ok (.iconst 2, 1) := dL_law_895_c.2.2.2.2.1
theorem dL_law_901 : decode cL_law 901 = .ok (.iadd, 1) := dL_law_895_c.2.2.2.2.2.1
theorem dL_law_902 : decode cL_law 902 = .ok (.iaload, 1) := dL_law_895_c.2.2.2.2.2.2.1
theorem dL_law_903 : decode cL_law 903 = .ok (.aload_n 0, 1) := dL_law_895_c.2.2.2.2.2.2.2.1
theorem dL_law_904 : decode cL_law 904 = .ok (.iload 4, 2) := dL_law_895_c.2.2.2.2.2.2.2.2.1
theorem dL_law_906 : decode cL_law 906 = .ok (.iconst 3, 1) := dL_law_895_c.2.2.2.2.2.2.2.2.2.1
theorem dL_law_907 : decode cL_law 907 = .ok (.iadd, 1) := dL_law_895_c.2.2.2.2.2.2.2.2.2.2.1
theorem dL_law_908 : decode cL_law 908 = .ok (.iaload, 1) := dL_law_895_c.2.2.2.2.2.2.2.2.2.2.2.1
theorem dL_law_909 : decode cL_law 909 = .ok (.invokevirtual 174, 3) := dL_law_895_c.2.2.2.2.2.2.2.2.2.2.2.2.1
theorem dL_law_912 : decode cL_law 912 = .ok (.istore 6, 2) := dL_law_895_c.2.2.2.2.2.2.2.2.2.2.2.2.2.1
theorem dL_law_914 : decode cL_law 914 = .ok (.goto 759, 3) := dL_law_895_c.2.2.2.2.2.2.2.2.2.2.2.2.2.2.1
theorem dL_law_917 : decode cL_law 917 = .ok (.aload_n 1, 1) := dL_law_895_c.2.2.2.2.2.2.2.2.2.2.2.2.2.2.2
theorem dL_law_918_c : decode cL_law 918 = .ok (.aload_n 0, 1) ∧ decode cL_law 919 = .ok (.iload 4, 2) ∧ decode cL_law 921 = .ok (.iconst 1, 1) ∧ decode cL_law 922 = .ok (.iadd, 1) ∧ decode cL_law 923 = .ok (.iaload, 1) ∧ decode cL_law 924 = .ok (.aload_n 0, 1) ∧ decode cL_law 925 = .ok (.iload 4, 2) ∧ decode cL_law 927 = .ok (.iconst 2, 1) ∧ decode cL_law 928 = .ok (.iadd, 1) ∧ decode cL_law 929 = .ok (.iaload, 1) ∧ decode cL_law 930 = .ok (.aload_n 0, 1) ∧ decode cL_law 931 = .ok (.iload 4, 2) ∧ decode cL_law 933 = .ok (.iconst 3, 1) ∧ decode cL_law 934 = .ok (.iadd, 1) ∧ decode cL_law 935 = .ok (.iaload, 1) ∧ decode cL_law 936 = .ok (.aload_n 3, 1) := by decide +kernel
theorem dL_law_918 : decode cL_law 918 = .ok (.aload_n 0, 1) := dL_law_918_c.1
theorem dL_law_919 : decode cL_law 919 = .ok (.iload 4, 2) := dL_law_918_c.2.1
theorem dL_law_921 : decode cL_law 921 = .ok (.iconst 1, 1) := dL_law_918_c.2.2.1
theorem dL_law_922 : decode cL_law 922 = .ok (.iadd, 1) := dL_law_918_c.2.2.2.1
theorem dL_law_923 : decode cL_law 923 = .ok (.iaload, 1) := dL_law_918_c.2.2.2.2.1
theorem dL_law_924 : decode cL_law 924 = .ok (.aload_n 0, 1) := dL_law_918_c.2.2.2.2.2.1
theorem dL_law_925 : decode cL_law 925 = .ok (.iload 4, 2) := dL_law_918_c.2.2.2.2.2.2.1
theorem dL_law_927 : decode cL_law 927 = .ok (.iconst 2, 1) := dL_law_918_c.2.2.2.2.2.2.2.1
theorem dL_law_928 : decode cL_law 928 = .ok (.iadd, 1) := dL_law_918_c.2.2.2.2.2.2.2.2.1
theorem dL_law_929 : decode cL_law 929 = .ok (.iaload, 1) := dL_law_918_c.2.2.2.2.2.2.2.2.2.1
theorem dL_law_930 : decode cL_law 930 = .ok (.aload_n 0, 1) := dL_law_918_c.2.2.2.2.2.2.2.2.2.2.1
theorem dL_law_931 : decode cL_law 931 = .ok (.iload 4, 2) := dL_law_918_c.2.2.2.2.2.2.2.2.2.2.2.1
theorem dL_law_933 : decode cL_law 933 = .ok (.iconst 3, 1) := dL_law_918_c.2.2.2.2.2.2.2.2.2.2.2.2.1
theorem dL_law_934 : decode cL_law 934 = .ok (.iadd, 1) := dL_law_918_c.2.2.2.2.2.2.2.2.2.2.2.2.2.1
theorem dL_law_935 : decode cL_law 935 = .ok (.iaload, 1) := dL_law_918_c.2.2.2.2.2.2.2.2.2.2.2.2.2.2.1
theorem dL_law_936 : decode cL_law 936 = .ok (.aload_n 3, 1) := dL_law_918_c.2.2.2.2.2.2.2.2.2.2.2.2.2.2.2
theorem dL_law_937_c : decode cL_law 937 = .ok (.invokestatic 175, 3) ∧ decode cL_law 940 = .ok (.istore 5, 2) ∧ decode cL_law 942 = .ok (.aload_n 2, 1) ∧ decode cL_law 943 = .ok (.aload_n 0, 1) ∧ decode cL_law 944 = .ok (.iload 4, 2) ∧ decode cL_law 946 = .ok (.iconst 1, 1) ∧ decode cL_law 947 = .ok (.iadd, 1) ∧ decode cL_law 948 = .ok (.iaload, 1) ∧ decode cL_law 949 = .ok (.aload_n 0, 1) ∧ decode cL_law 950 = .ok (.iload 4, 2) ∧ decode cL_law 952 = .ok (.iconst 2, 1) ∧ decode cL_law 953 = .ok (.iadd, 1) ∧ decode cL_law 954 = .ok (.iaload, 1) ∧ decode cL_law 955 = .ok (.aload_n 0, 1) ∧ decode cL_law 956 = .ok (.iload 4, 2) ∧ decode cL_law 958 = .ok (.iconst 3, 1) := by decide +kernel
theorem dL_law_937 : decode cL_law 937 = .ok (.invokestatic 175, 3) := dL_law_937_c.1
theorem dL_law_940 : decode cL_law 940 = .ok (.istore 5, 2) := dL_law_937_c.2.1
theorem dL_law_942 : decode cL_law 942 = .ok (.aload_n 2, 1) := dL_law_937_c.2.2.1
theorem dL_law_943 : decode cL_law 943 = .ok (.aload_n 0, 1) := dL_law_937_c.2.2.2.1
theorem dL_law_944 : decode cL_law 944 = .ok (.iload 4, 2) := dL_law_937_c.2.2.2.2.1
theorem dL_law_946 : decode cL_law 946 = .ok (.iconst 1, 1) := dL_law_937_c.2.2.2.2.2.1
theorem dL_law_947 : decode cL_law 947 = .ok (.iadd, 1) := dL_law_937_c.2.2.2.2.2.2.1
theorem dL_law_948 : decode cL_law 948 = .ok (.iaload, 1) := dL_law_937_c.2.2.2.2.2.2.2.1
theorem dL_law_949 : decode cL_law 949 = .ok (.aload_n 0, 1) := dL_law_937_c.2.2.2.2.2.2.2.2.1
theorem dL_law_950 : decode cL_law 950 = .ok (.iload 4, 2) := dL_law_937_c.2.2.2.2.2.2.2.2.2.1
theorem dL_law_952 : decode cL_law 952 = .ok (.iconst 2, 1) := dL_law_937_c.2.2.2.2.2.2.2.2.2.2.1
theorem dL_law_953 : decode cL_law 953 = .ok (.iadd, 1) := dL_law_937_c.2.2.2.2.2.2.2.2.2.2.2.1
theorem dL_law_954 : decode cL_law 954 = .ok (.iaload, 1) := dL_law_937_c.2.2.2.2.2.2.2.2.2.2.2.2.1
theorem dL_law_955 : decode cL_law 955 = .ok (.aload_n 0, 1) := dL_law_937_c.2.2.2.2.2.2.2.2.2.2.2.2.2.1
theorem dL_law_956 : decode cL_law 956 = .ok (.iload 4, 2) := dL_law_937_c.2.2.2.2.2.2.2.2.2.2.2.2.2.2.1
theorem dL_law_958 : decode cL_law 958 = .ok (.iconst 3, 1) := dL_law_937_c.2.2.2.2.2.2.2.2.2.2.2.2.2.2.2
theorem dL_law_959_c : decode cL_law 959 = .ok (.iadd, 1) ∧ decode cL_law 960 = .ok (.iaload, 1) ∧ decode cL_law 961 = .ok (.invokevirtual 177, 3) ∧ decode cL_law 964 = .ok (.istore 6, 2) ∧ decode cL_law 966 = .ok (.goto 707, 3) ∧ decode cL_law 969 = .ok (.aload_n 1, 1) ∧ decode cL_law 970 = .ok (.aload_n 0, 1) ∧ decode cL_law 971 = .ok (.iload 4, 2) ∧ decode cL_law 973 = .ok (.iconst 1, 1) ∧ decode cL_law 974 = .ok (.iadd, 1) ∧ decode cL_law 975 = .ok (.iaload, 1) ∧ decode cL_law 976 = .ok (.aload_n 0, 1) ∧ decode cL_law 977 = .ok (.iload 4, 2) ∧ decode cL_law 979 = .ok (.iconst 2, 1) ∧ decode cL_law 980 = .ok (.iadd, 1) ∧ decode cL_law 981 = .ok (.iaload, 1) := by decide +kernel
theorem dL_law_959 : decode cL_law 959 = .ok (.iadd, 1) := dL_law_959_c.1
theorem dL_law_960 : decode cL_law 960 = .ok (.iaload, 1) := dL_law_959_c.2.1
theorem dL_law_961 : decode cL_law 961 = .ok (.invokevirtual 177, 3) := dL_law_959_c.2.2.1
theorem dL_law_964 : decode cL_law 964 = .ok (.istore 6, 2) := dL_law_959_c.2.2.2.1
theorem dL_law_966 : decode cL_law 966 = .ok (.goto 707, 3) := dL_law_959_c.2.2.2.2.1
theorem dL_law_969 : decode cL_law 969 = .ok (.aload_n 1, 1) := dL_law_959_c.2.2.2.2.2.1
theorem dL_law_970 : decode cL_law 970 = .ok (.aload_n 0, 1) := dL_law_959_c.2.2.2.2.2.2.1
theorem dL_law_971 : decode cL_law 971 = .ok (.iload 4, 2) := dL_law_959_c.2.2.2.2.2.2.2.1
theorem dL_law_973 : decode cL_law 973 = .ok (.iconst 1, 1) := dL_law_959_c.2.2.2.2.2.2.2.2.1
theorem dL_law_974 : decode cL_law 974 = .ok (.iadd, 1) := dL_law_959_c.2.2.2.2.2.2.2.2.2.1
theorem dL_law_975 : decode cL_law 975 = .ok (.iaload, 1) := dL_law_959_c.2.2.2.2.2.2.2.2.2.2.1
theorem dL_law_976 : decode cL_law 976 = .ok (.aload_n 0, 1) := dL_law_959_c.2.2.2.2.2.2.2.2.2.2.2.1
theorem dL_law_977 : decode cL_law 977 = .ok (.iload 4, 2) := dL_law_959_c.2.2.2.2.2.2.2.2.2.2.2.2.1
theorem dL_law_979 : decode cL_law 979 = .ok (.iconst 2, 1) := dL_law_959_c.2.2.2.2.2.2.2.2.2.2.2.2.2.1
theorem dL_law_980 : decode cL_law 980 = .ok (.iadd, 1) := dL_law_959_c.2.2.2.2.2.2.2.2.2.2.2.2.2.2.1
theorem dL_law_981 : decode cL_law 981 = .ok (.iaload, 1) := dL_law_959_c.2.2.2.2.2.2.2.2.2.2.2.2.2.2.2
theorem dL_law_982_c : decode cL_law 982 = .ok (.aload_n 0, 1) ∧ decode cL_law 983 = .ok (.iload 4, 2) ∧ decode cL_law 985 = .ok (.iconst 3, 1) ∧ decode cL_law 986 = .ok (.iadd, 1) ∧ decode cL_law 987 = .ok (.iaload, 1) ∧ decode cL_law 988 = .ok (.aload_n 3, 1) ∧ decode cL_law 989 = .ok (.invokestatic 178, 3) ∧ decode cL_law 992 = .ok (.istore 5, 2) ∧ decode cL_law 994 = .ok (.aload_n 2, 1) ∧ decode cL_law 995 = .ok (.aload_n 0, 1) ∧ decode cL_law 996 = .ok (.iload 4, 2) ∧ decode cL_law 998 = .ok (.iconst 1, 1) ∧ decode cL_law 999 = .ok (.iadd, 1) ∧ decode cL_law 1000 = .ok (.iaload, 1) ∧ decode cL_law 1001 = .ok (.aload_n 0, 1) ∧ decode cL_law 1002 = .ok (.iload 4, 2) := by decide +kernel
theorem dL_law_982 : decode cL_law 982 = .ok (.aload_n 0, 1) := dL_law_982_c.1
theorem dL_law_983 : decode cL_law 983 = .ok (.iload 4, 2) := dL_law_982_c.2.1
theorem dL_law_985 : decode cL_law 985 = .ok (.iconst 3, 1) := dL_law_982_c.2.2.1
theorem dL_law_986 : decode cL_law 986 = .ok (.iadd, 1) := dL_law_982_c.2.2.2.1
theorem dL_law_987 : decode cL_law 987 = .ok (.iaload, 1) := dL_law_982_c.2.2.2.2.1
theorem dL_law_988 : decode cL_law 988 = .ok (.aload_n 3, 1) := dL_law_982_c.2.2.2.2.2.1
theorem dL_law_989 : decode cL_law 989 = .ok (.invokestatic 178, 3) := dL_law_982_c.2.2.2.2.2.2.1
theorem dL_law_992 : decode cL_law 992 = .ok (.istore 5, 2) := dL_law_982_c.2.2.2.2.2.2.2.1
theorem dL_law_994 : decode cL_law 994 = .ok (.aload_n 2, 1) := dL_law_982_c.2.2.2.2.2.2.2.2.1
theorem dL_law_995 : decode cL_law 995 = .ok (.aload_n 0, 1) := dL_law_982_c.2.2.2.2.2.2.2.2.2.1
theorem dL_law_996 : decode cL_law 996 = .ok (.iload 4, 2) := dL_law_982_c.2.2.2.2.2.2.2.2.2.2.1
theorem dL_law_998 : decode cL_law 998 = .ok (.iconst 1, 1) := dL_law_982_c.2.2.2.2.2.2.2.2.2.2.2.1
theorem dL_law_999 : decode cL_law 999 = .ok (.iadd, 1) := dL_law_982_c.2.2.2.2.2.2.2.2.2.2.2.2.1
theorem dL_law_1000 : decode cL_law 1000 = .ok (.iaload, 1) := dL_law_982_c.2.2.2.2.2.2.2.2.2.2.2.2.2.1
theorem dL_law_1001 : decode cL_law 1001 = .ok (.aload_n 0, 1) := dL_law_982_c.2.2.2.2.2.2.2.2.2.2.2.2.2.2.1
theorem dL_law_1002 : decode cL_law 1002 = .ok (.iload 4, 2) := dL_law_982_c.2.2.2.2.2.2.2.2.2.2.2.2.2.2.2
theorem dL_law_1004_c : decode cL_law 1004 = .ok (.iconst 2, 1) ∧ decode cL_law 1005 = .ok (.iadd, 1) ∧ decode cL_law 1006 = .ok (.iaload, 1) ∧ decode cL_law 1007 = .ok (.aload_n 0, 1) ∧ decode cL_law 1008 = .ok (.iload 4, 2) ∧ decode cL_law 1010 = .ok (.iconst 3, 1) := by decide +kernel
theorem dL_law_1004 : decode cL_law 1004 = .ok (.iconst 2, 1) := dL_law_1004_c.1
theorem dL_law_1005 : decode cL_law 1005 = .ok (.iadd, 1) := dL_law_1004_c.2.1
theorem dL_law_1006 : decode cL_law 1006 = .ok (.iaload, 1) := dL_law_1004_c.2.2.1
theorem dL_law_1007 : decode cL_law 1007 = .ok (.aload_n 0, 1) := dL_law_1004_c.2.2.2.1
theorem dL_law_1008 : decode cL_law 1008 = .ok (.iload 4, 2) := dL_law_1004_c.2.2.2.2.1
theorem dL_law_1010 : decode cL_law 1010 = .ok (.iconst 3, 1) := dL_law_1004_c.2.2.2.2.2
