/-! the law's rows -/
theorem zl_716 : decode code 716 = .ok (.iload_n 3, 1) := by decide +kernel
theorem zl_717 : decode code 717 = .ok (.iconst 1, 1) := by decide +kernel
theorem zl_718 : decode code 718 = .ok (.iadd, 1) := by decide +kernel
theorem zl_719 : decode code 719 = .ok (.iaload, 1) := by decide +kernel
theorem zl_720 : decode code 720 = .ok (.invokevirtual 89, 3) := by decide +kernel
theorem zl_723 : decode code 723 = .ok (.aload_n 2, 1) := by decide +kernel
theorem zl_724 : decode code 724 = .ok (.aload_n 0, 1) := by decide +kernel
theorem zl_725 : decode code 725 = .ok (.iload_n 3, 1) := by decide +kernel
theorem zl_726 : decode code 726 = .ok (.iconst 1, 1) := by decide +kernel
theorem zl_727 : decode code 727 = .ok (.iadd, 1) := by decide +kernel
theorem zl_728 : decode code 728 = .ok (.iaload, 1) := by decide +kernel
theorem zl_729 : decode code 729 = .ok (.invokevirtual 92, 3) := by decide +kernel
theorem zl_732 : decode code 732 = .ok (.if_icmp .eq (331), 3) := by decide +kernel
theorem zl_735 : decode code 735 = .ok (.iconst 0, 1) := by decide +kernel
theorem zl_736 : decode code 736 = .ok (.ireturn, 1) := by decide +kernel
theorem zl_737 : decode code 737 = .ok (.aload_n 1, 1) := by decide +kernel
theorem zl_738 : decode code 738 = .ok (.aload_n 0, 1) := by decide +kernel
theorem zl_739 : decode code 739 = .ok (.iload_n 3, 1) := by decide +kernel
theorem zl_740 : decode code 740 = .ok (.iconst 1, 1) := by decide +kernel
theorem zl_741 : decode code 741 = .ok (.iadd, 1) := by decide +kernel
theorem zl_742 : decode code 742 = .ok (.iaload, 1) := by decide +kernel
theorem zl_743 : decode code 743 = .ok (.invokevirtual 93, 3) := by decide +kernel
theorem zl_746 : decode code 746 = .ok (.aload_n 2, 1) := by decide +kernel
theorem zl_747 : decode code 747 = .ok (.aload_n 0, 1) := by decide +kernel
theorem zl_748 : decode code 748 = .ok (.iload_n 3, 1) := by decide +kernel
theorem zl_749 : decode code 749 = .ok (.iconst 1, 1) := by decide +kernel
theorem zl_750 : decode code 750 = .ok (.iadd, 1) := by decide +kernel
theorem zl_751 : decode code 751 = .ok (.iaload, 1) := by decide +kernel
theorem zl_752 : decode code 752 = .ok (.invokevirtual 96, 3) := by decide +kernel
theorem zl_755 : decode code 755 = .ok (.if_icmp .eq (308), 3) := by decide +kernel
theorem zl_758 : decode code 758 = .ok (.iconst 0, 1) := by decide +kernel
theorem zl_759 : decode code 759 = .ok (.ireturn, 1) := by decide +kernel
theorem zl_760 : decode code 760 = .ok (.aload_n 1, 1) := by decide +kernel
theorem zl_761 : decode code 761 = .ok (.aload_n 0, 1) := by decide +kernel
theorem zl_762 : decode code 762 = .ok (.iload_n 3, 1) := by decide +kernel
theorem zl_763 : decode code 763 = .ok (.iconst 1, 1) := by decide +kernel
theorem zl_764 : decode code 764 = .ok (.iadd, 1) := by decide +kernel
theorem zl_765 : decode code 765 = .ok (.iaload, 1) := by decide +kernel
theorem zl_766 : decode code 766 = .ok (.invokevirtual 97, 3) := by decide +kernel
theorem zl_769 : decode code 769 = .ok (.aload_n 2, 1) := by decide +kernel
theorem zl_770 : decode code 770 = .ok (.aload_n 0, 1) := by decide +kernel
theorem zl_771 : decode code 771 = .ok (.iload_n 3, 1) := by decide +kernel
theorem zl_772 : decode code 772 = .ok (.iconst 1, 1) := by decide +kernel
theorem zl_773 : decode code 773 = .ok (.iadd, 1) := by decide +kernel
theorem zl_774 : decode code 774 = .ok (.iaload, 1) := by decide +kernel
theorem zl_775 : decode code 775 = .ok (.invokevirtual 100, 3) := by decide +kernel
theorem zl_778 : decode code 778 = .ok (.if_icmp .eq (285), 3) := by decide +kernel
theorem zl_781 : decode code 781 = .ok (.iconst 0, 1) := by decide +kernel
theorem zl_782 : decode code 782 = .ok (.ireturn, 1) := by decide +kernel
theorem zl_783 : decode code 783 = .ok (.aload_n 1, 1) := by decide +kernel
theorem zl_784 : decode code 784 = .ok (.invokevirtual 101, 3) := by decide +kernel
theorem zl_787 : decode code 787 = .ok (.aload_n 2, 1) := by decide +kernel
theorem zl_788 : decode code 788 = .ok (.invokevirtual 104, 3) := by decide +kernel
theorem zl_791 : decode code 791 = .ok (.if_icmp .eq (272), 3) := by decide +kernel
theorem zl_794 : decode code 794 = .ok (.iconst 0, 1) := by decide +kernel
theorem zl_795 : decode code 795 = .ok (.ireturn, 1) := by decide +kernel
theorem zl_796 : decode code 796 = .ok (.aload_n 1, 1) := by decide +kernel
theorem zl_797 : decode code 797 = .ok (.aload_n 0, 1) := by decide +kernel
theorem zl_798 : decode code 798 = .ok (.iload_n 3, 1) := by decide +kernel
theorem zl_799 : decode code 799 = .ok (.iconst 1, 1) := by decide +kernel
theorem zl_800 : decode code 800 = .ok (.iadd, 1) := by decide +kernel
theorem zl_801 : decode code 801 = .ok (.iaload, 1) := by decide +kernel
theorem zl_802 : decode code 802 = .ok (.invokevirtual 105, 3) := by decide +kernel
theorem zl_805 : decode code 805 = .ok (.aload_n 2, 1) := by decide +kernel
theorem zl_806 : decode code 806 = .ok (.aload_n 0, 1) := by decide +kernel
theorem zl_807 : decode code 807 = .ok (.iload_n 3, 1) := by decide +kernel
theorem zl_808 : decode code 808 = .ok (.iconst 1, 1) := by decide +kernel
theorem zl_809 : decode code 809 = .ok (.iadd, 1) := by decide +kernel
theorem zl_810 : decode code 810 = .ok (.iaload, 1) := by decide +kernel
theorem zl_811 : decode code 811 = .ok (.invokevirtual 108, 3) := by decide +kernel
theorem zl_814 : decode code 814 = .ok (.if_icmp .eq (249), 3) := by decide +kernel
theorem zl_817 : decode code 817 = .ok (.iconst 0, 1) := by decide +kernel
theorem zl_818 : decode code 818 = .ok (.ireturn, 1) := by decide +kernel
theorem zl_819 : decode code 819 = .ok (.aload_n 1, 1) := by decide +kernel
theorem zl_820 : decode code 820 = .ok (.invokevirtual 109, 3) := by decide +kernel
theorem zl_823 : decode code 823 = .ok (.aload_n 2, 1) := by decide +kernel
theorem zl_824 : decode code 824 = .ok (.invokevirtual 112, 3) := by decide +kernel
theorem zl_827 : decode code 827 = .ok (.if_icmp .eq (236), 3) := by decide +kernel
theorem zl_830 : decode code 830 = .ok (.iconst 0, 1) := by decide +kernel
theorem zl_831 : decode code 831 = .ok (.ireturn, 1) := by decide +kernel
theorem zl_832 : decode code 832 = .ok (.aload_n 1, 1) := by decide +kernel
theorem zl_833 : decode code 833 = .ok (.aload_n 0, 1) := by decide +kernel
theorem zl_834 : decode code 834 = .ok (.iload_n 3, 1) := by decide +kernel
theorem zl_835 : decode code 835 = .ok (.iconst 1, 1) := by decide +kernel
theorem zl_836 : decode code 836 = .ok (.iadd, 1) := by decide +kernel
theorem zl_837 : decode code 837 = .ok (.iaload, 1) := by decide +kernel
theorem zl_838 : decode code 838 = .ok (.invokevirtual 113, 3) := by decide +kernel
theorem zl_841 : decode code 841 = .ok (.aload_n 2, 1) := by decide +kernel
theorem zl_842 : decode code 842 = .ok (.aload_n 0, 1) := by decide +kernel
theorem zl_843 : decode code 843 = .ok (.iload_n 3, 1) := by decide +kernel
theorem zl_844 : decode code 844 = .ok (.iconst 1, 1) := by decide +kernel
theorem zl_845 : decode code 845 = .ok (.iadd, 1) := by decide +kernel
theorem zl_846 : decode code 846 = .ok (.iaload, 1) := by decide +kernel
theorem zl_847 : decode code 847 = .ok (.invokevirtual 116, 3) := by decide +kernel
theorem zl_850 : decode code 850 = .ok (.if_icmp .eq (213), 3) := by decide +kernel
theorem zl_853 : decode code 853 = .ok (.iconst 0, 1) := by decide +kernel
theorem zl_854 : decode code 854 = .ok (.ireturn, 1) := by decide +kernel
theorem zl_855 : decode code 855 = .ok (.aload_n 1, 1) := by decide +kernel
theorem zl_856 : decode code 856 = .ok (.aload_n 0, 1) := by decide +kernel
theorem zl_857 : decode code 857 = .ok (.iload_n 3, 1) := by decide +kernel
theorem zl_858 : decode code 858 = .ok (.iconst 1, 1) := by decide +kernel
theorem zl_859 : decode code 859 = .ok (.iadd, 1) := by decide +kernel
theorem zl_860 : decode code 860 = .ok (.iaload, 1) := by decide +kernel
theorem zl_861 : decode code 861 = .ok (.aload_n 0, 1) := by decide +kernel
theorem zl_862 : decode code 862 = .ok (.iload_n 3, 1) := by decide +kernel
theorem zl_863 : decode code 863 = .ok (.iconst 2, 1) := by decide +kernel
theorem zl_864 : decode code 864 = .ok (.iadd, 1) := by decide +kernel
theorem zl_865 : decode code 865 = .ok (.iaload, 1) := by decide +kernel
theorem zl_866 : decode code 866 = .ok (.ifCond .eq (7), 3) := by decide +kernel
theorem zl_869 : decode code 869 = .ok (.iconst 1, 1) := by decide +kernel
theorem zl_870 : decode code 870 = .ok (.goto (4), 3) := by decide +kernel
theorem zl_873 : decode code 873 = .ok (.iconst 0, 1) := by decide +kernel
theorem zl_874 : decode code 874 = .ok (.invokevirtual 117, 3) := by decide +kernel
theorem zl_877 : decode code 877 = .ok (.aload_n 2, 1) := by decide +kernel
theorem zl_878 : decode code 878 = .ok (.aload_n 0, 1) := by decide +kernel
theorem zl_879 : decode code 879 = .ok (.iload_n 3, 1) := by decide +kernel
theorem zl_880 : decode code 880 = .ok (.iconst 1, 1) := by decide +kernel
theorem zl_881 : decode code 881 = .ok (.iadd, 1) := by decide +kernel
theorem zl_882 : decode code 882 = .ok (.iaload, 1) := by decide +kernel
theorem zl_883 : decode code 883 = .ok (.aload_n 0, 1) := by decide +kernel
theorem zl_884 : decode code 884 = .ok (.iload_n 3, 1) := by decide +kernel
theorem zl_885 : decode code 885 = .ok (.iconst 2, 1) := by decide +kernel
theorem zl_886 : decode code 886 = .ok (.iadd, 1) := by decide +kernel
theorem zl_887 : decode code 887 = .ok (.iaload, 1) := by decide +kernel
theorem zl_888 : decode code 888 = .ok (.ifCond .eq (7), 3) := by decide +kernel
theorem zl_891 : decode code 891 = .ok (.iconst 1, 1) := by decide +kernel
theorem zl_892 : decode code 892 = .ok (.goto (4), 3) := by decide +kernel
theorem zl_895 : decode code 895 = .ok (.iconst 0, 1) := by decide +kernel
theorem zl_896 : decode code 896 = .ok (.invokevirtual 121, 3) := by decide +kernel
theorem zl_899 : decode code 899 = .ok (.if_icmp .eq (164), 3) := by decide +kernel
theorem zl_902 : decode code 902 = .ok (.iconst 0, 1) := by decide +kernel
theorem zl_903 : decode code 903 = .ok (.ireturn, 1) := by decide +kernel
theorem zl_904 : decode code 904 = .ok (.aload_n 1, 1) := by decide +kernel
theorem zl_905 : decode code 905 = .ok (.aload_n 0, 1) := by decide +kernel
theorem zl_906 : decode code 906 = .ok (.iload_n 3, 1) := by decide +kernel
theorem zl_907 : decode code 907 = .ok (.iconst 1, 1) := by decide +kernel
theorem zl_908 : decode code 908 = .ok (.iadd, 1) := by decide +kernel
theorem zl_909 : decode code 909 = .ok (.iaload, 1) := by decide +kernel
theorem zl_910 : decode code 910 = .ok (.invokevirtual 122, 3) := by decide +kernel
theorem zl_913 : decode code 913 = .ok (.aload_n 2, 1) := by decide +kernel
theorem zl_914 : decode code 914 = .ok (.aload_n 0, 1) := by decide +kernel
theorem zl_915 : decode code 915 = .ok (.iload_n 3, 1) := by decide +kernel
theorem zl_916 : decode code 916 = .ok (.iconst 1, 1) := by decide +kernel
theorem zl_917 : decode code 917 = .ok (.iadd, 1) := by decide +kernel
theorem zl_918 : decode code 918 = .ok (.iaload, 1) := by decide +kernel
theorem zl_919 : decode code 919 = .ok (.invokevirtual 125, 3) := by decide +kernel
theorem zl_922 : decode code 922 = .ok (.if_icmp .eq (141), 3) := by decide +kernel
theorem zl_925 : decode code 925 = .ok (.iconst 0, 1) := by decide +kernel
theorem zl_926 : decode code 926 = .ok (.ireturn, 1) := by decide +kernel
theorem zl_927 : decode code 927 = .ok (.aload_n 1, 1) := by decide +kernel
theorem zl_928 : decode code 928 = .ok (.invokevirtual 126, 3) := by decide +kernel
theorem zl_931 : decode code 931 = .ok (.aload_n 2, 1) := by decide +kernel
theorem zl_932 : decode code 932 = .ok (.invokevirtual 129, 3) := by decide +kernel
theorem zl_935 : decode code 935 = .ok (.if_icmp .eq (128), 3) := by decide +kernel
theorem zl_938 : decode code 938 = .ok (.iconst 0, 1) := by decide +kernel
theorem zl_939 : decode code 939 = .ok (.ireturn, 1) := by decide +kernel
theorem zl_940 : decode code 940 = .ok (.aload_n 1, 1) := by decide +kernel
theorem zl_941 : decode code 941 = .ok (.invokevirtual 130, 3) := by decide +kernel
theorem zl_944 : decode code 944 = .ok (.dstore 4, 2) := by decide +kernel
theorem zl_946 : decode code 946 = .ok (.aload_n 2, 1) := by decide +kernel
theorem zl_947 : decode code 947 = .ok (.invokevirtual 134, 3) := by decide +kernel
theorem zl_950 : decode code 950 = .ok (.dstore 6, 2) := by decide +kernel
theorem zl_952 : decode code 952 = .ok (.dload 4, 2) := by decide +kernel
theorem zl_954 : decode code 954 = .ok (.dload 6, 2) := by decide +kernel
theorem zl_956 : decode code 956 = .ok (.dcmp .l, 1) := by decide +kernel
theorem zl_957 : decode code 957 = .ok (.ifCond .eq (21), 3) := by decide +kernel
theorem zl_960 : decode code 960 = .ok (.dload 4, 2) := by decide +kernel
theorem zl_962 : decode code 962 = .ok (.dload 4, 2) := by decide +kernel
theorem zl_964 : decode code 964 = .ok (.dcmp .l, 1) := by decide +kernel
theorem zl_965 : decode code 965 = .ok (.ifCond .eq (11), 3) := by decide +kernel
theorem zl_968 : decode code 968 = .ok (.dload 6, 2) := by decide +kernel
theorem zl_970 : decode code 970 = .ok (.dload 6, 2) := by decide +kernel
theorem zl_972 : decode code 972 = .ok (.dcmp .l, 1) := by decide +kernel
theorem zl_973 : decode code 973 = .ok (.ifCond .ne (5), 3) := by decide +kernel
theorem zl_976 : decode code 976 = .ok (.iconst 0, 1) := by decide +kernel
theorem zl_977 : decode code 977 = .ok (.ireturn, 1) := by decide +kernel
theorem zl_978 : decode code 978 = .ok (.goto (85), 3) := by decide +kernel
theorem zl_981 : decode code 981 = .ok (.aload_n 1, 1) := by decide +kernel
theorem zl_982 : decode code 982 = .ok (.invokevirtual 135, 3) := by decide +kernel
theorem zl_985 : decode code 985 = .ok (.f2d, 1) := by decide +kernel
theorem zl_986 : decode code 986 = .ok (.dstore 4, 2) := by decide +kernel
theorem zl_988 : decode code 988 = .ok (.aload_n 2, 1) := by decide +kernel
theorem zl_989 : decode code 989 = .ok (.invokevirtual 139, 3) := by decide +kernel
theorem zl_992 : decode code 992 = .ok (.f2d, 1) := by decide +kernel
theorem zl_993 : decode code 993 = .ok (.dstore 6, 2) := by decide +kernel
theorem zl_995 : decode code 995 = .ok (.dload 4, 2) := by decide +kernel
theorem zl_997 : decode code 997 = .ok (.dload 6, 2) := by decide +kernel
theorem zl_999 : decode code 999 = .ok (.dcmp .l, 1) := by decide +kernel
theorem zl_1000 : decode code 1000 = .ok (.ifCond .eq (21), 3) := by decide +kernel
theorem zl_1003 : decode code 1003 = .ok (.dload 4, 2) := by decide +kernel
theorem zl_1005 : decode code 1005 = .ok (.dload 4, 2) := by decide +kernel
theorem zl_1007 : decode code 1007 = .ok (.dcmp .l, 1) := by decide +kernel
theorem zl_1008 : decode code 1008 = .ok (.ifCond .eq (11), 3) := by decide +kernel
theorem zl_1011 : decode code 1011 = .ok (.dload 6, 2) := by decide +kernel
theorem zl_1013 : decode code 1013 = .ok (.dload 6, 2) := by decide +kernel
theorem zl_1015 : decode code 1015 = .ok (.dcmp .l, 1) := by decide +kernel
theorem zl_1016 : decode code 1016 = .ok (.ifCond .ne (5), 3) := by decide +kernel
theorem zl_1019 : decode code 1019 = .ok (.iconst 0, 1) := by decide +kernel
theorem zl_1020 : decode code 1020 = .ok (.ireturn, 1) := by decide +kernel
theorem zl_1021 : decode code 1021 = .ok (.goto (42), 3) := by decide +kernel
theorem zl_1024 : decode code 1024 = .ok (.aload_n 1, 1) := by decide +kernel
theorem zl_1025 : decode code 1025 = .ok (.invokevirtual 140, 3) := by decide +kernel
theorem zl_1028 : decode code 1028 = .ok (.aload_n 2, 1) := by decide +kernel
theorem zl_1029 : decode code 1029 = .ok (.invokevirtual 143, 3) := by decide +kernel
theorem zl_1032 : decode code 1032 = .ok (.if_icmp .eq (31), 3) := by decide +kernel
theorem zl_1035 : decode code 1035 = .ok (.iconst 0, 1) := by decide +kernel
theorem zl_1036 : decode code 1036 = .ok (.ireturn, 1) := by decide +kernel
theorem zl_1037 : decode code 1037 = .ok (.aload_n 1, 1) := by decide +kernel
theorem zl_1038 : decode code 1038 = .ok (.invokevirtual 144, 3) := by decide +kernel
theorem zl_1041 : decode code 1041 = .ok (.aload_n 2, 1) := by decide +kernel
theorem zl_1042 : decode code 1042 = .ok (.invokevirtual 147, 3) := by decide +kernel
theorem zl_1045 : decode code 1045 = .ok (.if_icmp .eq (18), 3) := by decide +kernel
theorem zl_1048 : decode code 1048 = .ok (.iconst 0, 1) := by decide +kernel
theorem zl_1049 : decode code 1049 = .ok (.ireturn, 1) := by decide +kernel
theorem zl_1050 : decode code 1050 = .ok (.aload_n 1, 1) := by decide +kernel
theorem zl_1051 : decode code 1051 = .ok (.invokevirtual 148, 3) := by decide +kernel
theorem zl_1054 : decode code 1054 = .ok (.aload_n 2, 1) := by decide +kernel
theorem zl_1055 : decode code 1055 = .ok (.invokevirtual 151, 3) := by decide +kernel
theorem zl_1058 : decode code 1058 = .ok (.if_icmp .eq (5), 3) := by decide +kernel
theorem zl_1061 : decode code 1061 = .ok (.iconst 0, 1) := by decide +kernel
theorem zl_1062 : decode code 1062 = .ok (.ireturn, 1) := by decide +kernel
theorem zl_1063 : decode code 1063 = .ok (.iinc 3 4, 3) := by decide +kernel
theorem zl_1066 : decode code 1066 = .ok (.goto (-1048), 3) := by decide +kernel
theorem zl_1069 : decode code 1069 = .ok (.iconst 1, 1) := by decide +kernel
theorem zl_1070 : decode code 1070 = .ok (.ireturn, 1) := by decide +kernel
