theorem d_La_law_806 : decode code 806 = .ok (.if_icmp .eq 5, 3) := by decide +kernel
theorem d_La_law_809 : decode code 809 = .ok (.iconst 0, 1) := by decide +kernel
theorem d_La_law_810 : decode code 810 = .ok (.ireturn, 1) := by decide +kernel
theorem d_La_law_811 : decode code 811 = .ok (.iload 5, 2) := by decide +kernel
theorem d_La_law_813 : decode code 813 = .ok (.ifCond .ne 15, 3) := by decide +kernel
theorem d_La_law_816 : decode code 816 = .ok (.aload_n 3, 1) := by decide +kernel
theorem d_La_law_817 : decode code 817 = .ok (.iconst 0, 1) := by decide +kernel
theorem d_La_law_818 : decode code 818 = .ok (.laload, 1) := by decide +kernel
theorem d_La_law_819 : decode code 819 = .ok (.iload 6, 2) := by decide +kernel
theorem d_La_law_821 : decode code 821 = .ok (.i2l, 1) := by decide +kernel
theorem d_La_law_822 : decode code 822 = .ok (.lcmp, 1) := by decide +kernel
theorem d_La_law_823 : decode code 823 = .ok (.ifCond .eq 5, 3) := by decide +kernel
theorem d_La_law_826 : decode code 826 = .ok (.iconst 0, 1) := by decide +kernel
theorem d_La_law_827 : decode code 827 = .ok (.ireturn, 1) := by decide +kernel
theorem d_La_law_828 : decode code 828 = .ok (.goto 699, 3) := by decide +kernel
theorem d_La_law_831 : decode code 831 = .ok (.aload_n 1, 1) := by decide +kernel
theorem d_La_law_832 : decode code 832 = .ok (.aload_n 0, 1) := by decide +kernel
theorem d_La_law_833 : decode code 833 = .ok (.iload 4, 2) := by decide +kernel
theorem d_La_law_835 : decode code 835 = .ok (.iconst 1, 1) := by decide +kernel
theorem d_La_law_836 : decode code 836 = .ok (.iadd, 1) := by decide +kernel
theorem d_La_law_837 : decode code 837 = .ok (.iaload, 1) := by decide +kernel
theorem d_La_law_838 : decode code 838 = .ok (.aload_n 0, 1) := by decide +kernel
theorem d_La_law_839 : decode code 839 = .ok (.iload 4, 2) := by decide +kernel
theorem d_La_law_841 : decode code 841 = .ok (.iconst 2, 1) := by decide +kernel
theorem d_La_law_842 : decode code 842 = .ok (.iadd, 1) := by decide +kernel
theorem d_La_law_843 : decode code 843 = .ok (.iaload, 1) := by decide +kernel
theorem d_La_law_844 : decode code 844 = .ok (.aload_n 0, 1) := by decide +kernel
theorem d_La_law_845 : decode code 845 = .ok (.iload 4, 2) := by decide +kernel
theorem d_La_law_847 : decode code 847 = .ok (.iconst 3, 1) := by decide +kernel
theorem d_La_law_848 : decode code 848 = .ok (.iadd, 1) := by decide +kernel
theorem d_La_law_849 : decode code 849 = .ok (.iaload, 1) := by decide +kernel
theorem d_La_law_850 : decode code 850 = .ok (.aload_n 3, 1) := by decide +kernel
theorem d_La_law_851 : decode code 851 = .ok (.invokestatic 122, 3) := by decide +kernel
theorem d_La_law_854 : decode code 854 = .ok (.istore 5, 2) := by decide +kernel
theorem d_La_law_856 : decode code 856 = .ok (.aload_n 2, 1) := by decide +kernel
theorem d_La_law_857 : decode code 857 = .ok (.aload_n 0, 1) := by decide +kernel
theorem d_La_law_858 : decode code 858 = .ok (.iload 4, 2) := by decide +kernel
theorem d_La_law_860 : decode code 860 = .ok (.iconst 1, 1) := by decide +kernel
theorem d_La_law_861 : decode code 861 = .ok (.iadd, 1) := by decide +kernel
theorem d_La_law_862 : decode code 862 = .ok (.iaload, 1) := by decide +kernel
theorem d_La_law_863 : decode code 863 = .ok (.aload_n 0, 1) := by decide +kernel
theorem d_La_law_864 : decode code 864 = .ok (.iload 4, 2) := by decide +kernel
theorem d_La_law_866 : decode code 866 = .ok (.iconst 2, 1) := by decide +kernel
theorem d_La_law_867 : decode code 867 = .ok (.iadd, 1) := by decide +kernel
theorem d_La_law_868 : decode code 868 = .ok (.iaload, 1) := by decide +kernel
theorem d_La_law_869 : decode code 869 = .ok (.aload_n 0, 1) := by decide +kernel
theorem d_La_law_870 : decode code 870 = .ok (.iload 4, 2) := by decide +kernel
theorem d_La_law_872 : decode code 872 = .ok (.iconst 3, 1) := by decide +kernel
theorem d_La_law_873 : decode code 873 = .ok (.iadd, 1) := by decide +kernel
theorem d_La_law_874 : decode code 874 = .ok (.iaload, 1) := by decide +kernel
theorem d_La_law_875 : decode code 875 = .ok (.invokevirtual 124, 3) := by decide +kernel
theorem d_La_law_878 : decode code 878 = .ok (.istore 6, 2) := by decide +kernel
theorem d_La_law_880 : decode code 880 = .ok (.aload_n 2, 1) := by decide +kernel
theorem d_La_law_881 : decode code 881 = .ok (.invokevirtual 92, 3) := by decide +kernel
theorem d_La_law_884 : decode code 884 = .ok (.iload 5, 2) := by decide +kernel
theorem d_La_law_886 : decode code 886 = .ok (.if_icmp .eq 5, 3) := by decide +kernel
theorem d_La_law_889 : decode code 889 = .ok (.iconst 0, 1) := by decide +kernel
theorem d_La_law_890 : decode code 890 = .ok (.ireturn, 1) := by decide +kernel
theorem d_La_law_891 : decode code 891 = .ok (.iload 5, 2) := by decide +kernel
theorem d_La_law_893 : decode code 893 = .ok (.ifCond .ne 15, 3) := by decide +kernel
theorem d_La_law_896 : decode code 896 = .ok (.aload_n 3, 1) := by decide +kernel
theorem d_La_law_897 : decode code 897 = .ok (.iconst 0, 1) := by decide +kernel
theorem d_La_law_898 : decode code 898 = .ok (.laload, 1) := by decide +kernel
theorem d_La_law_899 : decode code 899 = .ok (.iload 6, 2) := by decide +kernel
theorem d_La_law_901 : decode code 901 = .ok (.i2l, 1) := by decide +kernel
theorem d_La_law_902 : decode code 902 = .ok (.lcmp, 1) := by decide +kernel
theorem d_La_law_903 : decode code 903 = .ok (.ifCond .eq 5, 3) := by decide +kernel
theorem d_La_law_906 : decode code 906 = .ok (.iconst 0, 1) := by decide +kernel
theorem d_La_law_907 : decode code 907 = .ok (.ireturn, 1) := by decide +kernel
theorem d_La_law_908 : decode code 908 = .ok (.goto 619, 3) := by decide +kernel
theorem d_La_law_911 : decode code 911 = .ok (.aload_n 1, 1) := by decide +kernel
theorem d_La_law_912 : decode code 912 = .ok (.aload_n 0, 1) := by decide +kernel
theorem d_La_law_913 : decode code 913 = .ok (.iload 4, 2) := by decide +kernel
theorem d_La_law_915 : decode code 915 = .ok (.iconst 1, 1) := by decide +kernel
theorem d_La_law_916 : decode code 916 = .ok (.iadd, 1) := by decide +kernel
theorem d_La_law_917 : decode code 917 = .ok (.iaload, 1) := by decide +kernel
theorem d_La_law_918 : decode code 918 = .ok (.aload_n 0, 1) := by decide +kernel
theorem d_La_law_919 : decode code 919 = .ok (.iload 4, 2) := by decide +kernel
theorem d_La_law_921 : decode code 921 = .ok (.iconst 2, 1) := by decide +kernel
theorem d_La_law_922 : decode code 922 = .ok (.iadd, 1) := by decide +kernel
theorem d_La_law_923 : decode code 923 = .ok (.iaload, 1) := by decide +kernel
theorem d_La_law_924 : decode code 924 = .ok (.aload_n 0, 1) := by decide +kernel
theorem d_La_law_925 : decode code 925 = .ok (.iload 4, 2) := by decide +kernel
theorem d_La_law_927 : decode code 927 = .ok (.iconst 3, 1) := by decide +kernel
theorem d_La_law_928 : decode code 928 = .ok (.iadd, 1) := by decide +kernel
theorem d_La_law_929 : decode code 929 = .ok (.iaload, 1) := by decide +kernel
theorem d_La_law_930 : decode code 930 = .ok (.ifCond .eq 7, 3) := by decide +kernel
theorem d_La_law_933 : decode code 933 = .ok (.iconst 1, 1) := by decide +kernel
theorem d_La_law_934 : decode code 934 = .ok (.goto 4, 3) := by decide +kernel
theorem d_La_law_937 : decode code 937 = .ok (.iconst 0, 1) := by decide +kernel
theorem d_La_law_938 : decode code 938 = .ok (.aload_n 3, 1) := by decide +kernel
theorem d_La_law_939 : decode code 939 = .ok (.invokestatic 125, 3) := by decide +kernel
theorem d_La_law_942 : decode code 942 = .ok (.istore 5, 2) := by decide +kernel
theorem d_La_law_944 : decode code 944 = .ok (.aload_n 2, 1) := by decide +kernel
theorem d_La_law_945 : decode code 945 = .ok (.aload_n 0, 1) := by decide +kernel
theorem d_La_law_946 : decode code 946 = .ok (.iload 4, 2) := by decide +kernel
theorem d_La_law_948 : decode code 948 = .ok (.iconst 1, 1) := by decide +kernel
theorem d_La_law_949 : decode code 949 = .ok (.iadd, 1) := by decide +kernel
theorem d_La_law_950 : decode code 950 = .ok (.iaload, 1) := by decide +kernel
theorem d_La_law_951 : decode code 951 = .ok (.aload_n 0, 1) := by decide +kernel
theorem d_La_law_952 : decode code 952 = .ok (.iload 4, 2) := by decide +kernel
theorem d_La_law_954 : decode code 954 = .ok (.iconst 2, 1) := by decide +kernel
theorem d_La_law_955 : decode code 955 = .ok (.iadd, 1) := by decide +kernel
theorem d_La_law_956 : decode code 956 = .ok (.iaload, 1) := by decide +kernel
theorem d_La_law_957 : decode code 957 = .ok (.aload_n 0, 1) := by decide +kernel
theorem d_La_law_958 : decode code 958 = .ok (.iload 4, 2) := by decide +kernel
theorem d_La_law_960 : decode code 960 = .ok (.iconst 3, 1) := by decide +kernel
theorem d_La_law_961 : decode code 961 = .ok (.iadd, 1) := by decide +kernel
theorem d_La_law_962 : decode code 962 = .ok (.iaload, 1) := by decide +kernel
theorem d_La_law_963 : decode code 963 = .ok (.ifCond .eq 7, 3) := by decide +kernel
theorem d_La_law_966 : decode code 966 = .ok (.iconst 1, 1) := by decide +kernel
theorem d_La_law_967 : decode code 967 = .ok (.goto 4, 3) := by decide +kernel
theorem d_La_law_970 : decode code 970 = .ok (.iconst 0, 1) := by decide +kernel
theorem d_La_law_971 : decode code 971 = .ok (.invokevirtual 128, 3) := by decide +kernel
theorem d_La_law_974 : decode code 974 = .ok (.istore 6, 2) := by decide +kernel
theorem d_La_law_976 : decode code 976 = .ok (.aload_n 2, 1) := by decide +kernel
theorem d_La_law_977 : decode code 977 = .ok (.invokevirtual 92, 3) := by decide +kernel
theorem d_La_law_980 : decode code 980 = .ok (.iload 5, 2) := by decide +kernel
theorem d_La_law_982 : decode code 982 = .ok (.if_icmp .eq 5, 3) := by decide +kernel
theorem d_La_law_985 : decode code 985 = .ok (.iconst 0, 1) := by decide +kernel
