theorem d_Law_law_763 : decode code 763 = .ok (.if_icmp .eq 5, 3) := by decide +kernel
theorem d_Law_law_766 : decode code 766 = .ok (.iconst 0, 1) := by decide +kernel
theorem d_Law_law_767 : decode code 767 = .ok (.ireturn, 1) := by decide +kernel
theorem d_Law_law_768 : decode code 768 = .ok (.iload 6, 2) := by decide +kernel
theorem d_Law_law_770 : decode code 770 = .ok (.ifCond .ne 14, 3) := by decide +kernel
theorem d_Law_law_773 : decode code 773 = .ok (.aload_n 3, 1) := by decide +kernel
theorem d_Law_law_774 : decode code 774 = .ok (.iconst 0, 1) := by decide +kernel
theorem d_Law_law_775 : decode code 775 = .ok (.laload, 1) := by decide +kernel
theorem d_Law_law_776 : decode code 776 = .ok (.lload 7, 2) := by decide +kernel
theorem d_Law_law_778 : decode code 778 = .ok (.lcmp, 1) := by decide +kernel
theorem d_Law_law_779 : decode code 779 = .ok (.ifCond .eq 5, 3) := by decide +kernel
theorem d_Law_law_782 : decode code 782 = .ok (.iconst 0, 1) := by decide +kernel
theorem d_Law_law_783 : decode code 783 = .ok (.ireturn, 1) := by decide +kernel
theorem d_Law_law_784 : decode code 784 = .ok (.goto 213, 3) := by decide +kernel
theorem d_Law_law_787 : decode code 787 = .ok (.aload_n 1, 1) := by decide +kernel
theorem d_Law_law_788 : decode code 788 = .ok (.aload_n 0, 1) := by decide +kernel
theorem d_Law_law_789 : decode code 789 = .ok (.iload 5, 2) := by decide +kernel
theorem d_Law_law_791 : decode code 791 = .ok (.iconst 1, 1) := by decide +kernel
theorem d_Law_law_792 : decode code 792 = .ok (.iadd, 1) := by decide +kernel
theorem d_Law_law_793 : decode code 793 = .ok (.iaload, 1) := by decide +kernel
theorem d_Law_law_794 : decode code 794 = .ok (.aload 4, 2) := by decide +kernel
theorem d_Law_law_796 : decode code 796 = .ok (.invokestatic 118, 3) := by decide +kernel
theorem d_Law_law_799 : decode code 799 = .ok (.istore 6, 2) := by decide +kernel
theorem d_Law_law_801 : decode code 801 = .ok (.aload_n 2, 1) := by decide +kernel
theorem d_Law_law_802 : decode code 802 = .ok (.aload_n 0, 1) := by decide +kernel
theorem d_Law_law_803 : decode code 803 = .ok (.iload 5, 2) := by decide +kernel
theorem d_Law_law_805 : decode code 805 = .ok (.iconst 1, 1) := by decide +kernel
theorem d_Law_law_806 : decode code 806 = .ok (.iadd, 1) := by decide +kernel
theorem d_Law_law_807 : decode code 807 = .ok (.iaload, 1) := by decide +kernel
theorem d_Law_law_808 : decode code 808 = .ok (.invokevirtual 121, 3) := by decide +kernel
theorem d_Law_law_811 : decode code 811 = .ok (.dstore 7, 2) := by decide +kernel
theorem d_Law_law_813 : decode code 813 = .ok (.aload_n 2, 1) := by decide +kernel
theorem d_Law_law_814 : decode code 814 = .ok (.invokevirtual 78, 3) := by decide +kernel
theorem d_Law_law_817 : decode code 817 = .ok (.iload 6, 2) := by decide +kernel
theorem d_Law_law_819 : decode code 819 = .ok (.if_icmp .eq 5, 3) := by decide +kernel
theorem d_Law_law_822 : decode code 822 = .ok (.iconst 0, 1) := by decide +kernel
theorem d_Law_law_823 : decode code 823 = .ok (.ireturn, 1) := by decide +kernel
theorem d_Law_law_824 : decode code 824 = .ok (.iload 6, 2) := by decide +kernel
theorem d_Law_law_826 : decode code 826 = .ok (.ifCond .ne 35, 3) := by decide +kernel
theorem d_Law_law_829 : decode code 829 = .ok (.aload 4, 2) := by decide +kernel
theorem d_Law_law_831 : decode code 831 = .ok (.iconst 0, 1) := by decide +kernel
theorem d_Law_law_832 : decode code 832 = .ok (.daload, 1) := by decide +kernel
theorem d_Law_law_833 : decode code 833 = .ok (.dload 7, 2) := by decide +kernel
theorem d_Law_law_835 : decode code 835 = .ok (.dcmp .l, 1) := by decide +kernel
theorem d_Law_law_836 : decode code 836 = .ok (.ifCond .eq 25, 3) := by decide +kernel
theorem d_Law_law_839 : decode code 839 = .ok (.aload 4, 2) := by decide +kernel
theorem d_Law_law_841 : decode code 841 = .ok (.iconst 0, 1) := by decide +kernel
theorem d_Law_law_842 : decode code 842 = .ok (.daload, 1) := by decide +kernel
theorem d_Law_law_843 : decode code 843 = .ok (.aload 4, 2) := by decide +kernel
theorem d_Law_law_845 : decode code 845 = .ok (.iconst 0, 1) := by decide +kernel
theorem d_Law_law_846 : decode code 846 = .ok (.daload, 1) := by decide +kernel
theorem d_Law_law_847 : decode code 847 = .ok (.dcmp .l, 1) := by decide +kernel
theorem d_Law_law_848 : decode code 848 = .ok (.ifCond .eq 11, 3) := by decide +kernel
theorem d_Law_law_851 : decode code 851 = .ok (.dload 7, 2) := by decide +kernel
theorem d_Law_law_853 : decode code 853 = .ok (.dload 7, 2) := by decide +kernel
theorem d_Law_law_855 : decode code 855 = .ok (.dcmp .l, 1) := by decide +kernel
theorem d_Law_law_856 : decode code 856 = .ok (.ifCond .ne 5, 3) := by decide +kernel
theorem d_Law_law_859 : decode code 859 = .ok (.iconst 0, 1) := by decide +kernel
theorem d_Law_law_860 : decode code 860 = .ok (.ireturn, 1) := by decide +kernel
theorem d_Law_law_861 : decode code 861 = .ok (.goto 136, 3) := by decide +kernel
theorem d_Law_law_864 : decode code 864 = .ok (.aload_n 1, 1) := by decide +kernel
theorem d_Law_law_865 : decode code 865 = .ok (.aload_n 0, 1) := by decide +kernel
theorem d_Law_law_866 : decode code 866 = .ok (.iload 5, 2) := by decide +kernel
theorem d_Law_law_868 : decode code 868 = .ok (.iconst 1, 1) := by decide +kernel
theorem d_Law_law_869 : decode code 869 = .ok (.iadd, 1) := by decide +kernel
theorem d_Law_law_870 : decode code 870 = .ok (.iaload, 1) := by decide +kernel
theorem d_Law_law_871 : decode code 871 = .ok (.aload 4, 2) := by decide +kernel
theorem d_Law_law_873 : decode code 873 = .ok (.invokestatic 122, 3) := by decide +kernel
theorem d_Law_law_876 : decode code 876 = .ok (.istore 6, 2) := by decide +kernel
theorem d_Law_law_878 : decode code 878 = .ok (.aload_n 2, 1) := by decide +kernel
theorem d_Law_law_879 : decode code 879 = .ok (.aload_n 0, 1) := by decide +kernel
theorem d_Law_law_880 : decode code 880 = .ok (.iload 5, 2) := by decide +kernel
theorem d_Law_law_882 : decode code 882 = .ok (.iconst 1, 1) := by decide +kernel
theorem d_Law_law_883 : decode code 883 = .ok (.iadd, 1) := by decide +kernel
theorem d_Law_law_884 : decode code 884 = .ok (.iaload, 1) := by decide +kernel
theorem d_Law_law_885 : decode code 885 = .ok (.invokevirtual 124, 3) := by decide +kernel
theorem d_Law_law_888 : decode code 888 = .ok (.dstore 7, 2) := by decide +kernel
theorem d_Law_law_890 : decode code 890 = .ok (.aload_n 2, 1) := by decide +kernel
theorem d_Law_law_891 : decode code 891 = .ok (.invokevirtual 78, 3) := by decide +kernel
theorem d_Law_law_894 : decode code 894 = .ok (.iload 6, 2) := by decide +kernel
theorem d_Law_law_896 : decode code 896 = .ok (.if_icmp .eq 5, 3) := by decide +kernel
theorem d_Law_law_899 : decode code 899 = .ok (.iconst 0, 1) := by decide +kernel
theorem d_Law_law_900 : decode code 900 = .ok (.ireturn, 1) := by decide +kernel
theorem d_Law_law_901 : decode code 901 = .ok (.iload 6, 2) := by decide +kernel
theorem d_Law_law_903 : decode code 903 = .ok (.ifCond .ne 35, 3) := by decide +kernel
theorem d_Law_law_906 : decode code 906 = .ok (.aload 4, 2) := by decide +kernel
theorem d_Law_law_908 : decode code 908 = .ok (.iconst 0, 1) := by decide +kernel
theorem d_Law_law_909 : decode code 909 = .ok (.daload, 1) := by decide +kernel
theorem d_Law_law_910 : decode code 910 = .ok (.dload 7, 2) := by decide +kernel
theorem d_Law_law_912 : decode code 912 = .ok (.dcmp .l, 1) := by decide +kernel
theorem d_Law_law_913 : decode code 913 = .ok (.ifCond .eq 25, 3) := by decide +kernel
theorem d_Law_law_916 : decode code 916 = .ok (.aload 4, 2) := by decide +kernel
theorem d_Law_law_918 : decode code 918 = .ok (.iconst 0, 1) := by decide +kernel
theorem d_Law_law_919 : decode code 919 = .ok (.daload, 1) := by decide +kernel
theorem d_Law_law_920 : decode code 920 = .ok (.aload 4, 2) := by decide +kernel
theorem d_Law_law_922 : decode code 922 = .ok (.iconst 0, 1) := by decide +kernel
theorem d_Law_law_923 : decode code 923 = .ok (.daload, 1) := by decide +kernel
theorem d_Law_law_924 : decode code 924 = .ok (.dcmp .l, 1) := by decide +kernel
theorem d_Law_law_925 : decode code 925 = .ok (.ifCond .eq 11, 3) := by decide +kernel
theorem d_Law_law_928 : decode code 928 = .ok (.dload 7, 2) := by decide +kernel
theorem d_Law_law_930 : decode code 930 = .ok (.dload 7, 2) := by decide +kernel
theorem d_Law_law_932 : decode code 932 = .ok (.dcmp .l, 1) := by decide +kernel
theorem d_Law_law_933 : decode code 933 = .ok (.ifCond .ne 5, 3) := by decide +kernel
theorem d_Law_law_936 : decode code 936 = .ok (.iconst 0, 1) := by decide +kernel
theorem d_Law_law_937 : decode code 937 = .ok (.ireturn, 1) := by decide +kernel
theorem d_Law_law_938 : decode code 938 = .ok (.goto 59, 3) := by decide +kernel
theorem d_Law_law_941 : decode code 941 = .ok (.aload_n 1, 1) := by decide +kernel
theorem d_Law_law_942 : decode code 942 = .ok (.aload_n 0, 1) := by decide +kernel
theorem d_Law_law_943 : decode code 943 = .ok (.iload 5, 2) := by decide +kernel
theorem d_Law_law_945 : decode code 945 = .ok (.iconst 1, 1) := by decide +kernel
theorem d_Law_law_946 : decode code 946 = .ok (.iadd, 1) := by decide +kernel
theorem d_Law_law_947 : decode code 947 = .ok (.iaload, 1) := by decide +kernel
theorem d_Law_law_948 : decode code 948 = .ok (.aload_n 3, 1) := by decide +kernel
theorem d_Law_law_949 : decode code 949 = .ok (.invokestatic 125, 3) := by decide +kernel
theorem d_Law_law_952 : decode code 952 = .ok (.istore 6, 2) := by decide +kernel
theorem d_Law_law_954 : decode code 954 = .ok (.aload_n 2, 1) := by decide +kernel
theorem d_Law_law_955 : decode code 955 = .ok (.aload_n 0, 1) := by decide +kernel
theorem d_Law_law_956 : decode code 956 = .ok (.iload 5, 2) := by decide +kernel
theorem d_Law_law_958 : decode code 958 = .ok (.iconst 1, 1) := by decide +kernel
theorem d_Law_law_959 : decode code 959 = .ok (.iadd, 1) := by decide +kernel
theorem d_Law_law_960 : decode code 960 = .ok (.iaload, 1) := by decide +kernel
theorem d_Law_law_961 : decode code 961 = .ok (.invokevirtual 127, 3) := by decide +kernel
theorem d_Law_law_964 : decode code 964 = .ok (.istore 7, 2) := by decide +kernel
theorem d_Law_law_966 : decode code 966 = .ok (.aload_n 2, 1) := by decide +kernel
theorem d_Law_law_967 : decode code 967 = .ok (.invokevirtual 78, 3) := by decide +kernel
theorem d_Law_law_970 : decode code 970 = .ok (.iload 6, 2) := by decide +kernel
theorem d_Law_law_972 : decode code 972 = .ok (.if_icmp .eq 5, 3) := by decide +kernel
theorem d_Law_law_975 : decode code 975 = .ok (.iconst 0, 1) := by decide +kernel
theorem d_Law_law_976 : decode code 976 = .ok (.ireturn, 1) := by decide +kernel
theorem d_Law_law_977 : decode code 977 = .ok (.iload 6, 2) := by decide +kernel
theorem d_Law_law_979 : decode code 979 = .ok (.ifCond .ne 15, 3) := by decide +kernel
theorem d_Law_law_982 : decode code 982 = .ok (.aload_n 3, 1) := by decide +kernel
theorem d_Law_law_983 : decode code 983 = .ok (.iconst 0, 1) := by decide +kernel
theorem d_Law_law_984 : decode code 984 = .ok (.laload, 1) := by decide +kernel
theorem d_Law_law_985 : decode code 985 = .ok (.iload 7, 2) := by decide +kernel
theorem d_Law_law_987 : decode code 987 = .ok (.i2l, 1) := by decide +kernel
theorem d_Law_law_988 : decode code 988 = .ok (.lcmp, 1) := by decide +kernel
theorem d_Law_law_989 : decode code 989 = .ok (.ifCond .eq 5, 3) := by decide +kernel
theorem d_Law_law_992 : decode code 992 = .ok (.iconst 0, 1) := by decide +kernel
theorem d_Law_law_993 : decode code 993 = .ok (.ireturn, 1) := by decide +kernel
theorem d_Law_law_994 : decode code 994 = .ok (.goto 3, 3) := by decide +kernel
theorem d_Law_law_997 : decode code 997 = .ok (.iinc 5 5, 3) := by decide +kernel
theorem d_Law_law_1000 : decode code 1000 = .ok (.goto (-972), 3) := by decide +kernel
theorem d_Law_law_1003 : decode code 1003 = .ok (.iconst 1, 1) := by decide +kernel
theorem d_Law_law_1004 : decode code 1004 = .ok (.ireturn, 1) := by decide +kernel
