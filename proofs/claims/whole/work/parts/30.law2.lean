set_option maxRecDepth 100000 in
theorem al_d748 : decode code 748 = .ok (.iadd, 1) := by decide +kernel
set_option maxRecDepth 100000 in
theorem al_d749 : decode code 749 = .ok (.iaload, 1) := by decide +kernel
set_option maxRecDepth 100000 in
theorem al_d750 : decode code 750 = .ok (.invokevirtual 95, 3) := by decide +kernel
set_option maxRecDepth 100000 in
theorem al_d753 : decode code 753 = .ok (.if_icmp .eq 308, 3) := by decide +kernel
set_option maxRecDepth 100000 in
theorem al_d756 : decode code 756 = .ok (.iconst 0, 1) := by decide +kernel
set_option maxRecDepth 100000 in
theorem al_d757 : decode code 757 = .ok (.ireturn, 1) := by decide +kernel
set_option maxRecDepth 100000 in
theorem al_d758 : decode code 758 = .ok (.aload_n 1, 1) := by decide +kernel
set_option maxRecDepth 100000 in
theorem al_d759 : decode code 759 = .ok (.aload_n 0, 1) := by decide +kernel
set_option maxRecDepth 100000 in
theorem al_d760 : decode code 760 = .ok (.iload_n 3, 1) := by decide +kernel
set_option maxRecDepth 100000 in
theorem al_d761 : decode code 761 = .ok (.iconst 1, 1) := by decide +kernel
set_option maxRecDepth 100000 in
theorem al_d762 : decode code 762 = .ok (.iadd, 1) := by decide +kernel
set_option maxRecDepth 100000 in
theorem al_d763 : decode code 763 = .ok (.iaload, 1) := by decide +kernel
set_option maxRecDepth 100000 in
theorem al_d764 : decode code 764 = .ok (.invokevirtual 96, 3) := by decide +kernel
set_option maxRecDepth 100000 in
theorem al_d767 : decode code 767 = .ok (.aload_n 2, 1) := by decide +kernel
set_option maxRecDepth 100000 in
theorem al_d768 : decode code 768 = .ok (.aload_n 0, 1) := by decide +kernel
set_option maxRecDepth 100000 in
theorem al_d769 : decode code 769 = .ok (.iload_n 3, 1) := by decide +kernel
set_option maxRecDepth 100000 in
theorem al_d770 : decode code 770 = .ok (.iconst 1, 1) := by decide +kernel
set_option maxRecDepth 100000 in
theorem al_d771 : decode code 771 = .ok (.iadd, 1) := by decide +kernel
set_option maxRecDepth 100000 in
theorem al_d772 : decode code 772 = .ok (.iaload, 1) := by decide +kernel
set_option maxRecDepth 100000 in
theorem al_d773 : decode code 773 = .ok (.invokevirtual 99, 3) := by decide +kernel
set_option maxRecDepth 100000 in
theorem al_d776 : decode code 776 = .ok (.if_icmp .eq 285, 3) := by decide +kernel
set_option maxRecDepth 100000 in
theorem al_d779 : decode code 779 = .ok (.iconst 0, 1) := by decide +kernel
set_option maxRecDepth 100000 in
theorem al_d780 : decode code 780 = .ok (.ireturn, 1) := by decide +kernel
set_option maxRecDepth 100000 in
theorem al_d781 : decode code 781 = .ok (.aload_n 1, 1) := by decide +kernel
set_option maxRecDepth 100000 in
theorem al_d782 : decode code 782 = .ok (.aload_n 0, 1) := by decide +kernel
set_option maxRecDepth 100000 in
theorem al_d783 : decode code 783 = .ok (.iload_n 3, 1) := by decide +kernel
set_option maxRecDepth 100000 in
theorem al_d784 : decode code 784 = .ok (.iconst 1, 1) := by decide +kernel
set_option maxRecDepth 100000 in
theorem al_d785 : decode code 785 = .ok (.iadd, 1) := by decide +kernel
set_option maxRecDepth 100000 in
theorem al_d786 : decode code 786 = .ok (.iaload, 1) := by decide +kernel
set_option maxRecDepth 100000 in
theorem al_d787 : decode code 787 = .ok (.aload_n 0, 1) := by decide +kernel
set_option maxRecDepth 100000 in
theorem al_d788 : decode code 788 = .ok (.iload_n 3, 1) := by decide +kernel
set_option maxRecDepth 100000 in
theorem al_d789 : decode code 789 = .ok (.iconst 2, 1) := by decide +kernel
set_option maxRecDepth 100000 in
theorem al_d790 : decode code 790 = .ok (.iadd, 1) := by decide +kernel
set_option maxRecDepth 100000 in
theorem al_d791 : decode code 791 = .ok (.iaload, 1) := by decide +kernel
set_option maxRecDepth 100000 in
theorem al_d792 : decode code 792 = .ok (.invokevirtual 100, 3) := by decide +kernel
set_option maxRecDepth 100000 in
theorem al_d795 : decode code 795 = .ok (.aload_n 2, 1) := by decide +kernel
set_option maxRecDepth 100000 in
theorem al_d796 : decode code 796 = .ok (.aload_n 0, 1) := by decide +kernel
set_option maxRecDepth 100000 in
theorem al_d797 : decode code 797 = .ok (.iload_n 3, 1) := by decide +kernel
set_option maxRecDepth 100000 in
theorem al_d798 : decode code 798 = .ok (.iconst 1, 1) := by decide +kernel
set_option maxRecDepth 100000 in
theorem al_d799 : decode code 799 = .ok (.iadd, 1) := by decide +kernel
set_option maxRecDepth 100000 in
theorem al_d800 : decode code 800 = .ok (.iaload, 1) := by decide +kernel
set_option maxRecDepth 100000 in
theorem al_d801 : decode code 801 = .ok (.aload_n 0, 1) := by decide +kernel
set_option maxRecDepth 100000 in
theorem al_d802 : decode code 802 = .ok (.iload_n 3, 1) := by decide +kernel
set_option maxRecDepth 100000 in
theorem al_d803 : decode code 803 = .ok (.iconst 2, 1) := by decide +kernel
set_option maxRecDepth 100000 in
theorem al_d804 : decode code 804 = .ok (.iadd, 1) := by decide +kernel
set_option maxRecDepth 100000 in
theorem al_d805 : decode code 805 = .ok (.iaload, 1) := by decide +kernel
set_option maxRecDepth 100000 in
theorem al_d806 : decode code 806 = .ok (.invokevirtual 103, 3) := by decide +kernel
set_option maxRecDepth 100000 in
theorem al_d809 : decode code 809 = .ok (.if_icmp .eq 252, 3) := by decide +kernel
set_option maxRecDepth 100000 in
theorem al_d812 : decode code 812 = .ok (.iconst 0, 1) := by decide +kernel
set_option maxRecDepth 100000 in
theorem al_d813 : decode code 813 = .ok (.ireturn, 1) := by decide +kernel
set_option maxRecDepth 100000 in
theorem al_d814 : decode code 814 = .ok (.aload_n 1, 1) := by decide +kernel
set_option maxRecDepth 100000 in
theorem al_d815 : decode code 815 = .ok (.aload_n 0, 1) := by decide +kernel
set_option maxRecDepth 100000 in
theorem al_d816 : decode code 816 = .ok (.iload_n 3, 1) := by decide +kernel
set_option maxRecDepth 100000 in
theorem al_d817 : decode code 817 = .ok (.iconst 1, 1) := by decide +kernel
set_option maxRecDepth 100000 in
theorem al_d818 : decode code 818 = .ok (.iadd, 1) := by decide +kernel
set_option maxRecDepth 100000 in
theorem al_d819 : decode code 819 = .ok (.iaload, 1) := by decide +kernel
set_option maxRecDepth 100000 in
theorem al_d820 : decode code 820 = .ok (.invokevirtual 104, 3) := by decide +kernel
set_option maxRecDepth 100000 in
theorem al_d823 : decode code 823 = .ok (.aload_n 2, 1) := by decide +kernel
set_option maxRecDepth 100000 in
theorem al_d824 : decode code 824 = .ok (.aload_n 0, 1) := by decide +kernel
set_option maxRecDepth 100000 in
theorem al_d825 : decode code 825 = .ok (.iload_n 3, 1) := by decide +kernel
set_option maxRecDepth 100000 in
theorem al_d826 : decode code 826 = .ok (.iconst 1, 1) := by decide +kernel
set_option maxRecDepth 100000 in
theorem al_d827 : decode code 827 = .ok (.iadd, 1) := by decide +kernel
set_option maxRecDepth 100000 in
theorem al_d828 : decode code 828 = .ok (.iaload, 1) := by decide +kernel
set_option maxRecDepth 100000 in
theorem al_d829 : decode code 829 = .ok (.invokevirtual 107, 3) := by decide +kernel
set_option maxRecDepth 100000 in
theorem al_d832 : decode code 832 = .ok (.if_icmp .eq 229, 3) := by decide +kernel
set_option maxRecDepth 100000 in
theorem al_d835 : decode code 835 = .ok (.iconst 0, 1) := by decide +kernel
set_option maxRecDepth 100000 in
theorem al_d836 : decode code 836 = .ok (.ireturn, 1) := by decide +kernel
set_option maxRecDepth 100000 in
theorem al_d837 : decode code 837 = .ok (.aload_n 1, 1) := by decide +kernel
set_option maxRecDepth 100000 in
theorem al_d838 : decode code 838 = .ok (.aload_n 0, 1) := by decide +kernel
set_option maxRecDepth 100000 in
theorem al_d839 : decode code 839 = .ok (.iload_n 3, 1) := by decide +kernel
set_option maxRecDepth 100000 in
theorem al_d840 : decode code 840 = .ok (.iconst 1, 1) := by decide +kernel
set_option maxRecDepth 100000 in
theorem al_d841 : decode code 841 = .ok (.iadd, 1) := by decide +kernel
set_option maxRecDepth 100000 in
theorem al_d842 : decode code 842 = .ok (.iaload, 1) := by decide +kernel
set_option maxRecDepth 100000 in
theorem al_d843 : decode code 843 = .ok (.aload_n 0, 1) := by decide +kernel
set_option maxRecDepth 100000 in
theorem al_d844 : decode code 844 = .ok (.iload_n 3, 1) := by decide +kernel
set_option maxRecDepth 100000 in
theorem al_d845 : decode code 845 = .ok (.iconst 2, 1) := by decide +kernel
set_option maxRecDepth 100000 in
theorem al_d846 : decode code 846 = .ok (.iadd, 1) := by decide +kernel
set_option maxRecDepth 100000 in
theorem al_d847 : decode code 847 = .ok (.iaload, 1) := by decide +kernel
set_option maxRecDepth 100000 in
theorem al_d848 : decode code 848 = .ok (.invokevirtual 108, 3) := by decide +kernel
set_option maxRecDepth 100000 in
theorem al_d851 : decode code 851 = .ok (.aload_n 2, 1) := by decide +kernel
set_option maxRecDepth 100000 in
theorem al_d852 : decode code 852 = .ok (.aload_n 0, 1) := by decide +kernel
set_option maxRecDepth 100000 in
theorem al_d853 : decode code 853 = .ok (.iload_n 3, 1) := by decide +kernel
set_option maxRecDepth 100000 in
theorem al_d854 : decode code 854 = .ok (.iconst 1, 1) := by decide +kernel
set_option maxRecDepth 100000 in
theorem al_d855 : decode code 855 = .ok (.iadd, 1) := by decide +kernel
set_option maxRecDepth 100000 in
theorem al_d856 : decode code 856 = .ok (.iaload, 1) := by decide +kernel
set_option maxRecDepth 100000 in
theorem al_d857 : decode code 857 = .ok (.aload_n 0, 1) := by decide +kernel
set_option maxRecDepth 100000 in
theorem al_d858 : decode code 858 = .ok (.iload_n 3, 1) := by decide +kernel
set_option maxRecDepth 100000 in
theorem al_d859 : decode code 859 = .ok (.iconst 2, 1) := by decide +kernel
set_option maxRecDepth 100000 in
theorem al_d860 : decode code 860 = .ok (.iadd, 1) := by decide +kernel
set_option maxRecDepth 100000 in
theorem al_d861 : decode code 861 = .ok (.iaload, 1) := by decide +kernel
set_option maxRecDepth 100000 in
theorem al_d862 : decode code 862 = .ok (.invokevirtual 111, 3) := by decide +kernel
set_option maxRecDepth 100000 in
theorem al_d865 : decode code 865 = .ok (.if_icmp .eq 196, 3) := by decide +kernel
set_option maxRecDepth 100000 in
theorem al_d868 : decode code 868 = .ok (.iconst 0, 1) := by decide +kernel
set_option maxRecDepth 100000 in
theorem al_d869 : decode code 869 = .ok (.ireturn, 1) := by decide +kernel
set_option maxRecDepth 100000 in
theorem al_d870 : decode code 870 = .ok (.aload_n 1, 1) := by decide +kernel
set_option maxRecDepth 100000 in
theorem al_d871 : decode code 871 = .ok (.aload_n 0, 1) := by decide +kernel
set_option maxRecDepth 100000 in
theorem al_d872 : decode code 872 = .ok (.iload_n 3, 1) := by decide +kernel
set_option maxRecDepth 100000 in
theorem al_d873 : decode code 873 = .ok (.iconst 1, 1) := by decide +kernel
set_option maxRecDepth 100000 in
theorem al_d874 : decode code 874 = .ok (.iadd, 1) := by decide +kernel
set_option maxRecDepth 100000 in
theorem al_d875 : decode code 875 = .ok (.iaload, 1) := by decide +kernel
set_option maxRecDepth 100000 in
theorem al_d876 : decode code 876 = .ok (.invokevirtual 112, 3) := by decide +kernel
set_option maxRecDepth 100000 in
theorem al_d879 : decode code 879 = .ok (.aload_n 2, 1) := by decide +kernel
set_option maxRecDepth 100000 in
theorem al_d880 : decode code 880 = .ok (.aload_n 0, 1) := by decide +kernel
set_option maxRecDepth 100000 in
theorem al_d881 : decode code 881 = .ok (.iload_n 3, 1) := by decide +kernel
set_option maxRecDepth 100000 in
theorem al_d882 : decode code 882 = .ok (.iconst 1, 1) := by decide +kernel
set_option maxRecDepth 100000 in
theorem al_d883 : decode code 883 = .ok (.iadd, 1) := by decide +kernel
set_option maxRecDepth 100000 in
theorem al_d884 : decode code 884 = .ok (.iaload, 1) := by decide +kernel
set_option maxRecDepth 100000 in
theorem al_d885 : decode code 885 = .ok (.invokevirtual 115, 3) := by decide +kernel
set_option maxRecDepth 100000 in
theorem al_d888 : decode code 888 = .ok (.if_icmp .eq 173, 3) := by decide +kernel
set_option maxRecDepth 100000 in
theorem al_d891 : decode code 891 = .ok (.iconst 0, 1) := by decide +kernel
set_option maxRecDepth 100000 in
theorem al_d892 : decode code 892 = .ok (.ireturn, 1) := by decide +kernel
set_option maxRecDepth 100000 in
theorem al_d893 : decode code 893 = .ok (.aload_n 1, 1) := by decide +kernel
set_option maxRecDepth 100000 in
theorem al_d894 : decode code 894 = .ok (.aload_n 0, 1) := by decide +kernel
set_option maxRecDepth 100000 in
theorem al_d895 : decode code 895 = .ok (.iload_n 3, 1) := by decide +kernel
set_option maxRecDepth 100000 in
theorem al_d896 : decode code 896 = .ok (.iconst 1, 1) := by decide +kernel
set_option maxRecDepth 100000 in
theorem al_d897 : decode code 897 = .ok (.iadd, 1) := by decide +kernel
set_option maxRecDepth 100000 in
theorem al_d898 : decode code 898 = .ok (.iaload, 1) := by decide +kernel
set_option maxRecDepth 100000 in
theorem al_d899 : decode code 899 = .ok (.invokevirtual 116, 3) := by decide +kernel
set_option maxRecDepth 100000 in
theorem al_d902 : decode code 902 = .ok (.aload_n 2, 1) := by decide +kernel
set_option maxRecDepth 100000 in
theorem al_d903 : decode code 903 = .ok (.aload_n 0, 1) := by decide +kernel
set_option maxRecDepth 100000 in
theorem al_d904 : decode code 904 = .ok (.iload_n 3, 1) := by decide +kernel
set_option maxRecDepth 100000 in
theorem al_d905 : decode code 905 = .ok (.iconst 1, 1) := by decide +kernel
set_option maxRecDepth 100000 in
theorem al_d906 : decode code 906 = .ok (.iadd, 1) := by decide +kernel
set_option maxRecDepth 100000 in
theorem al_d907 : decode code 907 = .ok (.iaload, 1) := by decide +kernel
set_option maxRecDepth 100000 in
theorem al_d908 : decode code 908 = .ok (.invokevirtual 119, 3) := by decide +kernel
set_option maxRecDepth 100000 in
theorem al_d911 : decode code 911 = .ok (.if_icmp .eq 150, 3) := by decide +kernel
set_option maxRecDepth 100000 in
theorem al_d914 : decode code 914 = .ok (.iconst 0, 1) := by decide +kernel
set_option maxRecDepth 100000 in
theorem al_d915 : decode code 915 = .ok (.ireturn, 1) := by decide +kernel
set_option maxRecDepth 100000 in
theorem al_d916 : decode code 916 = .ok (.aload_n 1, 1) := by decide +kernel
set_option maxRecDepth 100000 in
theorem al_d917 : decode code 917 = .ok (.aload_n 0, 1) := by decide +kernel
set_option maxRecDepth 100000 in
theorem al_d918 : decode code 918 = .ok (.iload_n 3, 1) := by decide +kernel
set_option maxRecDepth 100000 in
theorem al_d919 : decode code 919 = .ok (.iconst 1, 1) := by decide +kernel
set_option maxRecDepth 100000 in
theorem al_d920 : decode code 920 = .ok (.iadd, 1) := by decide +kernel
set_option maxRecDepth 100000 in
theorem al_d921 : decode code 921 = .ok (.iaload, 1) := by decide +kernel
set_option maxRecDepth 100000 in
theorem al_d922 : decode code 922 = .ok (.invokevirtual 120, 3) := by decide +kernel
set_option maxRecDepth 100000 in
theorem al_d925 : decode code 925 = .ok (.aload_n 2, 1) := by decide +kernel
set_option maxRecDepth 100000 in
theorem al_d926 : decode code 926 = .ok (.aload_n 0, 1) := by decide +kernel
set_option maxRecDepth 100000 in
theorem al_d927 : decode code 927 = .ok (.iload_n 3, 1) := by decide +kernel
set_option maxRecDepth 100000 in
theorem al_d928 : decode code 928 = .ok (.iconst 1, 1) := by decide +kernel
set_option maxRecDepth 100000 in
theorem al_d929 : decode code 929 = .ok (.iadd, 1) := by decide +kernel
set_option maxRecDepth 100000 in
theorem al_d930 : decode code 930 = .ok (.iaload, 1) := by decide +kernel
set_option maxRecDepth 100000 in
theorem al_d931 : decode code 931 = .ok (.invokevirtual 123, 3) := by decide +kernel
set_option maxRecDepth 100000 in
theorem al_d934 : decode code 934 = .ok (.if_icmp .eq 127, 3) := by decide +kernel
set_option maxRecDepth 100000 in
theorem al_d937 : decode code 937 = .ok (.iconst 0, 1) := by decide +kernel
set_option maxRecDepth 100000 in
theorem al_d938 : decode code 938 = .ok (.ireturn, 1) := by decide +kernel
set_option maxRecDepth 100000 in
theorem al_d939 : decode code 939 = .ok (.aload_n 1, 1) := by decide +kernel
set_option maxRecDepth 100000 in
theorem al_d940 : decode code 940 = .ok (.invokevirtual 124, 3) := by decide +kernel
set_option maxRecDepth 100000 in
theorem al_d943 : decode code 943 = .ok (.aload_n 2, 1) := by decide +kernel
set_option maxRecDepth 100000 in
theorem al_d944 : decode code 944 = .ok (.invokevirtual 128, 3) := by decide +kernel
set_option maxRecDepth 100000 in
theorem al_d947 : decode code 947 = .ok (.if_icmp .eq 114, 3) := by decide +kernel
set_option maxRecDepth 100000 in
theorem al_d950 : decode code 950 = .ok (.iconst 0, 1) := by decide +kernel
set_option maxRecDepth 100000 in
theorem al_d951 : decode code 951 = .ok (.ireturn, 1) := by decide +kernel
set_option maxRecDepth 100000 in
theorem al_d952 : decode code 952 = .ok (.aload_n 1, 1) := by decide +kernel
set_option maxRecDepth 100000 in
theorem al_d953 : decode code 953 = .ok (.aload_n 0, 1) := by decide +kernel
set_option maxRecDepth 100000 in
theorem al_d954 : decode code 954 = .ok (.iload_n 3, 1) := by decide +kernel
set_option maxRecDepth 100000 in
theorem al_d955 : decode code 955 = .ok (.iconst 1, 1) := by decide +kernel
set_option maxRecDepth 100000 in
theorem al_d956 : decode code 956 = .ok (.iadd, 1) := by decide +kernel
set_option maxRecDepth 100000 in
theorem al_d957 : decode code 957 = .ok (.iaload, 1) := by decide +kernel
set_option maxRecDepth 100000 in
theorem al_d958 : decode code 958 = .ok (.invokevirtual 129, 3) := by decide +kernel
set_option maxRecDepth 100000 in
theorem al_d961 : decode code 961 = .ok (.aload_n 2, 1) := by decide +kernel
set_option maxRecDepth 100000 in
theorem al_d962 : decode code 962 = .ok (.aload_n 0, 1) := by decide +kernel
set_option maxRecDepth 100000 in
theorem al_d963 : decode code 963 = .ok (.iload_n 3, 1) := by decide +kernel
set_option maxRecDepth 100000 in
theorem al_d964 : decode code 964 = .ok (.iconst 1, 1) := by decide +kernel
set_option maxRecDepth 100000 in
theorem al_d965 : decode code 965 = .ok (.iadd, 1) := by decide +kernel
set_option maxRecDepth 100000 in
theorem al_d966 : decode code 966 = .ok (.iaload, 1) := by decide +kernel
set_option maxRecDepth 100000 in
theorem al_d967 : decode code 967 = .ok (.invokevirtual 132, 3) := by decide +kernel
set_option maxRecDepth 100000 in
theorem al_d970 : decode code 970 = .ok (.if_icmp .eq 91, 3) := by decide +kernel
set_option maxRecDepth 100000 in
theorem al_d973 : decode code 973 = .ok (.iconst 0, 1) := by decide +kernel
set_option maxRecDepth 100000 in
theorem al_d974 : decode code 974 = .ok (.ireturn, 1) := by decide +kernel
set_option maxRecDepth 100000 in
theorem al_d975 : decode code 975 = .ok (.aload_n 1, 1) := by decide +kernel
set_option maxRecDepth 100000 in
theorem al_d976 : decode code 976 = .ok (.invokevirtual 133, 3) := by decide +kernel
set_option maxRecDepth 100000 in
theorem al_d979 : decode code 979 = .ok (.aload_n 2, 1) := by decide +kernel
set_option maxRecDepth 100000 in
theorem al_d980 : decode code 980 = .ok (.invokevirtual 137, 3) := by decide +kernel
set_option maxRecDepth 100000 in
theorem al_d983 : decode code 983 = .ok (.lcmp, 1) := by decide +kernel
set_option maxRecDepth 100000 in
theorem al_d984 : decode code 984 = .ok (.ifCond .eq 77, 3) := by decide +kernel
set_option maxRecDepth 100000 in
theorem al_d987 : decode code 987 = .ok (.iconst 0, 1) := by decide +kernel
set_option maxRecDepth 100000 in
theorem al_d988 : decode code 988 = .ok (.ireturn, 1) := by decide +kernel
set_option maxRecDepth 100000 in
theorem al_d989 : decode code 989 = .ok (.aload_n 1, 1) := by decide +kernel
set_option maxRecDepth 100000 in
theorem al_d990 : decode code 990 = .ok (.invokevirtual 138, 3) := by decide +kernel
set_option maxRecDepth 100000 in
theorem al_d993 : decode code 993 = .ok (.aload_n 2, 1) := by decide +kernel
set_option maxRecDepth 100000 in
theorem al_d994 : decode code 994 = .ok (.invokevirtual 141, 3) := by decide +kernel
set_option maxRecDepth 100000 in
theorem al_d997 : decode code 997 = .ok (.if_icmp .eq 64, 3) := by decide +kernel
set_option maxRecDepth 100000 in
theorem al_d1000 : decode code 1000 = .ok (.iconst 0, 1) := by decide +kernel
set_option maxRecDepth 100000 in
theorem al_d1001 : decode code 1001 = .ok (.ireturn, 1) := by decide +kernel
set_option maxRecDepth 100000 in
theorem al_d1002 : decode code 1002 = .ok (.aload_n 1, 1) := by decide +kernel
set_option maxRecDepth 100000 in
theorem al_d1003 : decode code 1003 = .ok (.aload_n 0, 1) := by decide +kernel
set_option maxRecDepth 100000 in
theorem al_d1004 : decode code 1004 = .ok (.iload_n 3, 1) := by decide +kernel
set_option maxRecDepth 100000 in
theorem al_d1005 : decode code 1005 = .ok (.iconst 1, 1) := by decide +kernel
set_option maxRecDepth 100000 in
theorem al_d1006 : decode code 1006 = .ok (.iadd, 1) := by decide +kernel
set_option maxRecDepth 100000 in
theorem al_d1007 : decode code 1007 = .ok (.iaload, 1) := by decide +kernel
set_option maxRecDepth 100000 in
theorem al_d1008 : decode code 1008 = .ok (.invokevirtual 142, 3) := by decide +kernel
set_option maxRecDepth 100000 in
theorem al_d1011 : decode code 1011 = .ok (.aload_n 2, 1) := by decide +kernel
set_option maxRecDepth 100000 in
theorem al_d1012 : decode code 1012 = .ok (.aload_n 0, 1) := by decide +kernel
set_option maxRecDepth 100000 in
theorem al_d1013 : decode code 1013 = .ok (.iload_n 3, 1) := by decide +kernel
set_option maxRecDepth 100000 in
theorem al_d1014 : decode code 1014 = .ok (.iconst 1, 1) := by decide +kernel
set_option maxRecDepth 100000 in
theorem al_d1015 : decode code 1015 = .ok (.iadd, 1) := by decide +kernel
set_option maxRecDepth 100000 in
theorem al_d1016 : decode code 1016 = .ok (.iaload, 1) := by decide +kernel
set_option maxRecDepth 100000 in
theorem al_d1017 : decode code 1017 = .ok (.invokevirtual 145, 3) := by decide +kernel
set_option maxRecDepth 100000 in
theorem al_d1020 : decode code 1020 = .ok (.if_icmp .eq 41, 3) := by decide +kernel
set_option maxRecDepth 100000 in
theorem al_d1023 : decode code 1023 = .ok (.iconst 0, 1) := by decide +kernel
set_option maxRecDepth 100000 in
theorem al_d1024 : decode code 1024 = .ok (.ireturn, 1) := by decide +kernel
set_option maxRecDepth 100000 in
theorem al_d1025 : decode code 1025 = .ok (.aload_n 1, 1) := by decide +kernel
set_option maxRecDepth 100000 in
theorem al_d1026 : decode code 1026 = .ok (.invokevirtual 146, 3) := by decide +kernel
set_option maxRecDepth 100000 in
theorem al_d1029 : decode code 1029 = .ok (.aload_n 2, 1) := by decide +kernel
set_option maxRecDepth 100000 in
theorem al_d1030 : decode code 1030 = .ok (.invokevirtual 149, 3) := by decide +kernel
set_option maxRecDepth 100000 in
theorem al_d1033 : decode code 1033 = .ok (.if_icmp .eq 28, 3) := by decide +kernel
set_option maxRecDepth 100000 in
theorem al_d1036 : decode code 1036 = .ok (.iconst 0, 1) := by decide +kernel
set_option maxRecDepth 100000 in
theorem al_d1037 : decode code 1037 = .ok (.ireturn, 1) := by decide +kernel
set_option maxRecDepth 100000 in
theorem al_d1038 : decode code 1038 = .ok (.aload_n 1, 1) := by decide +kernel
set_option maxRecDepth 100000 in
theorem al_d1039 : decode code 1039 = .ok (.aload_n 0, 1) := by decide +kernel
set_option maxRecDepth 100000 in
theorem al_d1040 : decode code 1040 = .ok (.iload_n 3, 1) := by decide +kernel
set_option maxRecDepth 100000 in
theorem al_d1041 : decode code 1041 = .ok (.iconst 1, 1) := by decide +kernel
set_option maxRecDepth 100000 in
theorem al_d1042 : decode code 1042 = .ok (.iadd, 1) := by decide +kernel
set_option maxRecDepth 100000 in
theorem al_d1043 : decode code 1043 = .ok (.iaload, 1) := by decide +kernel
set_option maxRecDepth 100000 in
theorem al_d1044 : decode code 1044 = .ok (.invokevirtual 150, 3) := by decide +kernel
set_option maxRecDepth 100000 in
theorem al_d1047 : decode code 1047 = .ok (.aload_n 2, 1) := by decide +kernel
set_option maxRecDepth 100000 in
theorem al_d1048 : decode code 1048 = .ok (.aload_n 0, 1) := by decide +kernel
set_option maxRecDepth 100000 in
theorem al_d1049 : decode code 1049 = .ok (.iload_n 3, 1) := by decide +kernel
set_option maxRecDepth 100000 in
theorem al_d1050 : decode code 1050 = .ok (.iconst 1, 1) := by decide +kernel
set_option maxRecDepth 100000 in
theorem al_d1051 : decode code 1051 = .ok (.iadd, 1) := by decide +kernel
set_option maxRecDepth 100000 in
theorem al_d1052 : decode code 1052 = .ok (.iaload, 1) := by decide +kernel
set_option maxRecDepth 100000 in
theorem al_d1053 : decode code 1053 = .ok (.invokevirtual 153, 3) := by decide +kernel
set_option maxRecDepth 100000 in
theorem al_d1056 : decode code 1056 = .ok (.if_icmp .eq 5, 3) := by decide +kernel
set_option maxRecDepth 100000 in
theorem al_d1059 : decode code 1059 = .ok (.iconst 0, 1) := by decide +kernel
set_option maxRecDepth 100000 in
theorem al_d1060 : decode code 1060 = .ok (.ireturn, 1) := by decide +kernel
set_option maxRecDepth 100000 in
theorem al_d1061 : decode code 1061 = .ok (.iinc 3 6, 3) := by decide +kernel
set_option maxRecDepth 100000 in
theorem al_d1064 : decode code 1064 = .ok (.goto (-1046), 3) := by decide +kernel
set_option maxRecDepth 100000 in
theorem al_d1067 : decode code 1067 = .ok (.iconst 1, 1) := by decide +kernel
set_option maxRecDepth 100000 in
theorem al_d1068 : decode code 1068 = .ok (.ireturn, 1) := by decide +kernel
