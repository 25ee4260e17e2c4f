theorem dL_law_674 : decode code 674 = .ok (.iconst 4, 1) := by decide +kernel
theorem dL_law_675 : decode code 675 = .ok (.iadd, 1) := by decide +kernel
theorem dL_law_676 : decode code 676 = .ok (.iaload, 1) := by decide +kernel
theorem dL_law_677 : decode code 677 = .ok (.ifCond .eq 7, 3) := by decide +kernel
theorem dL_law_680 : decode code 680 = .ok (.iconst 1, 1) := by decide +kernel
theorem dL_law_681 : decode code 681 = .ok (.goto 4, 3) := by decide +kernel
theorem dL_law_684 : decode code 684 = .ok (.iconst 0, 1) := by decide +kernel
theorem dL_law_685 : decode code 685 = .ok (.aload_n 0, 1) := by decide +kernel
theorem dL_law_686 : decode code 686 = .ok (.iload_n 3, 1) := by decide +kernel
theorem dL_law_687 : decode code 687 = .ok (.iconst 5, 1) := by decide +kernel
theorem dL_law_688 : decode code 688 = .ok (.iadd, 1) := by decide +kernel
theorem dL_law_689 : decode code 689 = .ok (.iaload, 1) := by decide +kernel
theorem dL_law_690 : decode code 690 = .ok (.invokevirtual 75, 3) := by decide +kernel
theorem dL_law_693 : decode code 693 = .ok (.aload_n 2, 1) := by decide +kernel
theorem dL_law_694 : decode code 694 = .ok (.aload_n 0, 1) := by decide +kernel
theorem dL_law_695 : decode code 695 = .ok (.iload_n 3, 1) := by decide +kernel
theorem dL_law_696 : decode code 696 = .ok (.iconst 1, 1) := by decide +kernel
theorem dL_law_697 : decode code 697 = .ok (.iadd, 1) := by decide +kernel
theorem dL_law_698 : decode code 698 = .ok (.iaload, 1) := by decide +kernel
theorem dL_law_699 : decode code 699 = .ok (.aload_n 0, 1) := by decide +kernel
theorem dL_law_700 : decode code 700 = .ok (.iload_n 3, 1) := by decide +kernel
theorem dL_law_701 : decode code 701 = .ok (.iconst 2, 1) := by decide +kernel
theorem dL_law_702 : decode code 702 = .ok (.iadd, 1) := by decide +kernel
theorem dL_law_703 : decode code 703 = .ok (.iaload, 1) := by decide +kernel
theorem dL_law_704 : decode code 704 = .ok (.aload_n 0, 1) := by decide +kernel
theorem dL_law_705 : decode code 705 = .ok (.iload_n 3, 1) := by decide +kernel
theorem dL_law_706 : decode code 706 = .ok (.iconst 3, 1) := by decide +kernel
theorem dL_law_707 : decode code 707 = .ok (.iadd, 1) := by decide +kernel
theorem dL_law_708 : decode code 708 = .ok (.iaload, 1) := by decide +kernel
theorem dL_law_709 : decode code 709 = .ok (.aload_n 0, 1) := by decide +kernel
theorem dL_law_710 : decode code 710 = .ok (.iload_n 3, 1) := by decide +kernel
theorem dL_law_711 : decode code 711 = .ok (.iconst 4, 1) := by decide +kernel
theorem dL_law_712 : decode code 712 = .ok (.iadd, 1) := by decide +kernel
theorem dL_law_713 : decode code 713 = .ok (.iaload, 1) := by decide +kernel
theorem dL_law_714 : decode code 714 = .ok (.ifCond .eq 7, 3) := by decide +kernel
theorem dL_law_717 : decode code 717 = .ok (.iconst 1, 1) := by decide +kernel
theorem dL_law_718 : decode code 718 = .ok (.goto 4, 3) := by decide +kernel
theorem dL_law_721 : decode code 721 = .ok (.iconst 0, 1) := by decide +kernel
theorem dL_law_722 : decode code 722 = .ok (.aload_n 0, 1) := by decide +kernel
theorem dL_law_723 : decode code 723 = .ok (.iload_n 3, 1) := by decide +kernel
theorem dL_law_724 : decode code 724 = .ok (.iconst 5, 1) := by decide +kernel
theorem dL_law_725 : decode code 725 = .ok (.iadd, 1) := by decide +kernel
theorem dL_law_726 : decode code 726 = .ok (.iaload, 1) := by decide +kernel
theorem dL_law_727 : decode code 727 = .ok (.invokevirtual 79, 3) := by decide +kernel
theorem dL_law_730 : decode code 730 = .ok (.if_icmp .eq 417, 3) := by decide +kernel
theorem dL_law_735 : decode code 735 = .ok (.aload_n 1, 1) := by decide +kernel
theorem dL_law_736 : decode code 736 = .ok (.aload_n 0, 1) := by decide +kernel
theorem dL_law_737 : decode code 737 = .ok (.iload_n 3, 1) := by decide +kernel
theorem dL_law_738 : decode code 738 = .ok (.iconst 1, 1) := by decide +kernel
theorem dL_law_739 : decode code 739 = .ok (.iadd, 1) := by decide +kernel
theorem dL_law_740 : decode code 740 = .ok (.iaload, 1) := by decide +kernel
theorem dL_law_741 : decode code 741 = .ok (.invokevirtual 80, 3) := by decide +kernel
theorem dL_law_744 : decode code 744 = .ok (.aload_n 2, 1) := by decide +kernel
theorem dL_law_745 : decode code 745 = .ok (.aload_n 0, 1) := by decide +kernel
theorem dL_law_746 : decode code 746 = .ok (.iload_n 3, 1) := by decide +kernel
theorem dL_law_747 : decode code 747 = .ok (.iconst 1, 1) := by decide +kernel
theorem dL_law_748 : decode code 748 = .ok (.iadd, 1) := by decide +kernel
theorem dL_law_749 : decode code 749 = .ok (.iaload, 1) := by decide +kernel
theorem dL_law_750 : decode code 750 = .ok (.invokevirtual 83, 3) := by decide +kernel
theorem dL_law_753 : decode code 753 = .ok (.if_icmp .eq 394, 3) := by decide +kernel
theorem dL_law_758 : decode code 758 = .ok (.aload_n 1, 1) := by decide +kernel
theorem dL_law_759 : decode code 759 = .ok (.aload_n 0, 1) := by decide +kernel
theorem dL_law_760 : decode code 760 = .ok (.iload_n 3, 1) := by decide +kernel
theorem dL_law_761 : decode code 761 = .ok (.iconst 1, 1) := by decide +kernel
theorem dL_law_762 : decode code 762 = .ok (.iadd, 1) := by decide +kernel
theorem dL_law_763 : decode code 763 = .ok (.iaload, 1) := by decide +kernel
theorem dL_law_764 : decode code 764 = .ok (.aload_n 0, 1) := by decide +kernel
theorem dL_law_765 : decode code 765 = .ok (.iload_n 3, 1) := by decide +kernel
theorem dL_law_766 : decode code 766 = .ok (.iconst 2, 1) := by decide +kernel
theorem dL_law_767 : decode code 767 = .ok (.iadd, 1) := by decide +kernel
theorem dL_law_768 : decode code 768 = .ok (.iaload, 1) := by decide +kernel
theorem dL_law_769 : decode code 769 = .ok (.invokevirtual 84, 3) := by decide +kernel
theorem dL_law_772 : decode code 772 = .ok (.aload_n 2, 1) := by decide +kernel
theorem dL_law_773 : decode code 773 = .ok (.aload_n 0, 1) := by decide +kernel
theorem dL_law_774 : decode code 774 = .ok (.iload_n 3, 1) := by decide +kernel
theorem dL_law_775 : decode code 775 = .ok (.iconst 1, 1) := by decide +kernel
theorem dL_law_776 : decode code 776 = .ok (.iadd, 1) := by decide +kernel
theorem dL_law_777 : decode code 777 = .ok (.iaload, 1) := by decide +kernel
theorem dL_law_778 : decode code 778 = .ok (.aload_n 0, 1) := by decide +kernel
theorem dL_law_779 : decode code 779 = .ok (.iload_n 3, 1) := by decide +kernel
theorem dL_law_780 : decode code 780 = .ok (.iconst 2, 1) := by decide +kernel
theorem dL_law_781 : decode code 781 = .ok (.iadd, 1) := by decide +kernel
theorem dL_law_782 : decode code 782 = .ok (.iaload, 1) := by decide +kernel
theorem dL_law_783 : decode code 783 = .ok (.invokevirtual 87, 3) := by decide +kernel
theorem dL_law_786 : decode code 786 = .ok (.if_icmp .eq 361, 3) := by decide +kernel
theorem dL_law_791 : decode code 791 = .ok (.aload_n 1, 1) := by decide +kernel
theorem dL_law_792 : decode code 792 = .ok (.aload_n 0, 1) := by decide +kernel
theorem dL_law_793 : decode code 793 = .ok (.iload_n 3, 1) := by decide +kernel
theorem dL_law_794 : decode code 794 = .ok (.iconst 1, 1) := by decide +kernel
theorem dL_law_795 : decode code 795 = .ok (.iadd, 1) := by decide +kernel
theorem dL_law_796 : decode code 796 = .ok (.iaload, 1) := by decide +kernel
theorem dL_law_797 : decode code 797 = .ok (.aload_n 0, 1) := by decide +kernel
theorem dL_law_798 : decode code 798 = .ok (.iload_n 3, 1) := by decide +kernel
theorem dL_law_799 : decode code 799 = .ok (.iconst 2, 1) := by decide +kernel
theorem dL_law_800 : decode code 800 = .ok (.iadd, 1) := by decide +kernel
theorem dL_law_801 : decode code 801 = .ok (.iaload, 1) := by decide +kernel
theorem dL_law_802 : decode code 802 = .ok (.invokevirtual 88, 3) := by decide +kernel
theorem dL_law_805 : decode code 805 = .ok (.aload_n 2, 1) := by decide +kernel
theorem dL_law_806 : decode code 806 = .ok (.aload_n 0, 1) := by decide +kernel
theorem dL_law_807 : decode code 807 = .ok (.iload_n 3, 1) := by decide +kernel
theorem dL_law_808 : decode code 808 = .ok (.iconst 1, 1) := by decide +kernel
theorem dL_law_809 : decode code 809 = .ok (.iadd, 1) := by decide +kernel
theorem dL_law_810 : decode code 810 = .ok (.iaload, 1) := by decide +kernel
theorem dL_law_811 : decode code 811 = .ok (.aload_n 0, 1) := by decide +kernel
theorem dL_law_812 : decode code 812 = .ok (.iload_n 3, 1) := by decide +kernel
theorem dL_law_813 : decode code 813 = .ok (.iconst 2, 1) := by decide +kernel
theorem dL_law_814 : decode code 814 = .ok (.iadd, 1) := by decide +kernel
theorem dL_law_815 : decode code 815 = .ok (.iaload, 1) := by decide +kernel
theorem dL_law_816 : decode code 816 = .ok (.invokevirtual 91, 3) := by decide +kernel
theorem dL_law_819 : decode code 819 = .ok (.if_icmp .eq 328, 3) := by decide +kernel
theorem dL_law_824 : decode code 824 = .ok (.aload_n 1, 1) := by decide +kernel
theorem dL_law_825 : decode code 825 = .ok (.aload_n 0, 1) := by decide +kernel
theorem dL_law_826 : decode code 826 = .ok (.iload_n 3, 1) := by decide +kernel
theorem dL_law_827 : decode code 827 = .ok (.iconst 1, 1) := by decide +kernel
theorem dL_law_828 : decode code 828 = .ok (.iadd, 1) := by decide +kernel
theorem dL_law_829 : decode code 829 = .ok (.iaload, 1) := by decide +kernel
theorem dL_law_830 : decode code 830 = .ok (.invokevirtual 92, 3) := by decide +kernel
theorem dL_law_833 : decode code 833 = .ok (.aload_n 2, 1) := by decide +kernel
theorem dL_law_834 : decode code 834 = .ok (.aload_n 0, 1) := by decide +kernel
theorem dL_law_835 : decode code 835 = .ok (.iload_n 3, 1) := by decide +kernel
theorem dL_law_836 : decode code 836 = .ok (.iconst 1, 1) := by decide +kernel
theorem dL_law_837 : decode code 837 = .ok (.iadd, 1) := by decide +kernel
theorem dL_law_838 : decode code 838 = .ok (.iaload, 1) := by decide +kernel
theorem dL_law_839 : decode code 839 = .ok (.invokevirtual 95, 3) := by decide +kernel
theorem dL_law_842 : decode code 842 = .ok (.if_icmp .eq 305, 3) := by decide +kernel
theorem dL_law_847 : decode code 847 = .ok (.aload_n 1, 1) := by decide +kernel
theorem dL_law_848 : decode code 848 = .ok (.aload_n 0, 1) := by decide +kernel
theorem dL_law_849 : decode code 849 = .ok (.iload_n 3, 1) := by decide +kernel
theorem dL_law_850 : decode code 850 = .ok (.iconst 1, 1) := by decide +kernel
theorem dL_law_851 : decode code 851 = .ok (.iadd, 1) := by decide +kernel
theorem dL_law_852 : decode code 852 = .ok (.iaload, 1) := by decide +kernel
theorem dL_law_853 : decode code 853 = .ok (.aload_n 0, 1) := by decide +kernel
theorem dL_law_854 : decode code 854 = .ok (.iload_n 3, 1) := by decide +kernel
theorem dL_law_855 : decode code 855 = .ok (.iconst 2, 1) := by decide +kernel
theorem dL_law_856 : decode code 856 = .ok (.iadd, 1) := by decide +kernel
theorem dL_law_857 : decode code 857 = .ok (.iaload, 1) := by decide +kernel
theorem dL_law_858 : decode code 858 = .ok (.aload_n 0, 1) := by decide +kernel
theorem dL_law_859 : decode code 859 = .ok (.iload_n 3, 1) := by decide +kernel
theorem dL_law_860 : decode code 860 = .ok (.iconst 3, 1) := by decide +kernel
theorem dL_law_861 : decode code 861 = .ok (.iadd, 1) := by decide +kernel
theorem dL_law_862 : decode code 862 = .ok (.iaload, 1) := by decide +kernel
theorem dL_law_863 : decode code 863 = .ok (.invokevirtual 96, 3) := by decide +kernel
theorem dL_law_866 : decode code 866 = .ok (.aload_n 2, 1) := by decide +kernel
theorem dL_law_867 : decode code 867 = .ok (.aload_n 0, 1) := by decide +kernel
theorem dL_law_868 : decode code 868 = .ok (.iload_n 3, 1) := by decide +kernel
theorem dL_law_869 : decode code 869 = .ok (.iconst 1, 1) := by decide +kernel
theorem dL_law_870 : decode code 870 = .ok (.iadd, 1) := by decide +kernel
theorem dL_law_871 : decode code 871 = .ok (.iaload, 1) := by decide +kernel
theorem dL_law_872 : decode code 872 = .ok (.aload_n 0, 1) := by decide +kernel
theorem dL_law_873 : decode code 873 = .ok (.iload_n 3, 1) := by decide +kernel
theorem dL_law_874 : decode code 874 = .ok (.iconst 2, 1) := by decide +kernel
theorem dL_law_875 : decode code 875 = .ok (.iadd, 1) := by decide +kernel
theorem dL_law_876 : decode code 876 = .ok (.iaload, 1) := by decide +kernel
theorem dL_law_877 : decode code 877 = .ok (.aload_n 0, 1) := by decide +kernel
theorem dL_law_878 : decode code 878 = .ok (.iload_n 3, 1) := by decide +kernel
theorem dL_law_879 : decode code 879 = .ok (.iconst 3, 1) := by decide +kernel
theorem dL_law_880 : decode code 880 = .ok (.iadd, 1) := by decide +kernel
theorem dL_law_881 : decode code 881 = .ok (.iaload, 1) := by decide +kernel
theorem dL_law_882 : decode code 882 = .ok (.invokevirtual 100, 3) := by decide +kernel
theorem dL_law_885 : decode code 885 = .ok (.if_icmp .eq 262, 3) := by decide +kernel
theorem dL_law_890 : decode code 890 = .ok (.aload_n 1, 1) := by decide +kernel
theorem dL_law_891 : decode code 891 = .ok (.aload_n 0, 1) := by decide +kernel
theorem dL_law_892 : decode code 892 = .ok (.iload_n 3, 1) := by decide +kernel
theorem dL_law_893 : decode code 893 = .ok (.iconst 1, 1) := by decide +kernel
theorem dL_law_894 : decode code 894 = .ok (.iadd, 1) := by decide +kernel
theorem dL_law_895 : decode code 895 = .ok (.iaload, 1) := by decide +kernel
theorem dL_law_896 : decode code 896 = .ok (.invokevirtual 101, 3) := by decide +kernel
theorem dL_law_899 : decode code 899 = .ok (.aload_n 2, 1) := by decide +kernel
theorem dL_law_900 : decode code 900 = .ok (.aload_n 0, 1) := by decide +kernel
theorem dL_law_901 : decode code 901 = .ok (.iload_n 3, 1) := by decide +kernel
theorem dL_law_902 : decode code 902 = .ok (.iconst 1, 1) := by decide +kernel
theorem dL_law_903 : decode code 903 = .ok (.iadd, 1) := by decide +kernel
theorem dL_law_904 : decode code 904 = .ok (.iaload, 1) := by decide +kernel
theorem dL_law_905 : decode code 905 = .ok (.invokevirtual 104, 3) := by decide +kernel
theorem dL_law_908 : decode code 908 = .ok (.if_icmp .eq 239, 3) := by decide +kernel
theorem dL_law_913 : decode code 913 = .ok (.aload_n 1, 1) := by decide +kernel
theorem dL_law_914 : decode code 914 = .ok (.aload_n 0, 1) := by decide +kernel
theorem dL_law_915 : decode code 915 = .ok (.iload_n 3, 1) := by decide +kernel
theorem dL_law_916 : decode code 916 = .ok (.iconst 1, 1) := by decide +kernel
theorem dL_law_917 : decode code 917 = .ok (.iadd, 1) := by decide +kernel
theorem dL_law_918 : decode code 918 = .ok (.iaload, 1) := by decide +kernel
theorem dL_law_919 : decode code 919 = .ok (.invokevirtual 105, 3) := by decide +kernel
theorem dL_law_922 : decode code 922 = .ok (.aload_n 2, 1) := by decide +kernel
theorem dL_law_923 : decode code 923 = .ok (.aload_n 0, 1) := by decide +kernel
theorem dL_law_924 : decode code 924 = .ok (.iload_n 3, 1) := by decide +kernel
theorem dL_law_925 : decode code 925 = .ok (.iconst 1, 1) := by decide +kernel
theorem dL_law_926 : decode code 926 = .ok (.iadd, 1) := by decide +kernel
theorem dL_law_927 : decode code 927 = .ok (.iaload, 1) := by decide +kernel
theorem dL_law_928 : decode code 928 = .ok (.invokevirtual 108, 3) := by decide +kernel
theorem dL_law_931 : decode code 931 = .ok (.if_icmp .eq 216, 3) := by decide +kernel
theorem dL_law_936 : decode code 936 = .ok (.aload_n 1, 1) := by decide +kernel
theorem dL_law_937 : decode code 937 = .ok (.aload_n 0, 1) := by decide +kernel
theorem dL_law_938 : decode code 938 = .ok (.iload_n 3, 1) := by decide +kernel
theorem dL_law_939 : decode code 939 = .ok (.iconst 1, 1) := by decide +kernel
theorem dL_law_940 : decode code 940 = .ok (.iadd, 1) := by decide +kernel
theorem dL_law_941 : decode code 941 = .ok (.iaload, 1) := by decide +kernel
theorem dL_law_942 : decode code 942 = .ok (.aload_n 0, 1) := by decide +kernel
theorem dL_law_943 : decode code 943 = .ok (.iload_n 3, 1) := by decide +kernel
theorem dL_law_944 : decode code 944 = .ok (.iconst 2, 1) := by decide +kernel
theorem dL_law_945 : decode code 945 = .ok (.iadd, 1) := by decide +kernel
theorem dL_law_946 : decode code 946 = .ok (.iaload, 1) := by decide +kernel
theorem dL_law_947 : decode code 947 = .ok (.invokevirtual 109, 3) := by decide +kernel
theorem dL_law_950 : decode code 950 = .ok (.aload_n 2, 1) := by decide +kernel
theorem dL_law_951 : decode code 951 = .ok (.aload_n 0, 1) := by decide +kernel
theorem dL_law_952 : decode code 952 = .ok (.iload_n 3, 1) := by decide +kernel
theorem dL_law_953 : decode code 953 = .ok (.iconst 1, 1) := by decide +kernel
theorem dL_law_954 : decode code 954 = .ok (.iadd, 1) := by decide +kernel
theorem dL_law_955 : decode code 955 = .ok (.iaload, 1) := by decide +kernel
theorem dL_law_956 : decode code 956 = .ok (.aload_n 0, 1) := by decide +kernel
theorem dL_law_957 : decode code 957 = .ok (.iload_n 3, 1) := by decide +kernel
theorem dL_law_958 : decode code 958 = .ok (.iconst 2, 1) := by decide +kernel
theorem dL_law_959 : decode code 959 = .ok (.iadd, 1) := by decide +kernel
theorem dL_law_960 : decode code 960 = .ok (.iaload, 1) := by decide +kernel
theorem dL_law_961 : decode code 961 = .ok (.invokevirtual 112, 3) := by decide +kernel
theorem dL_law_964 : decode code 964 = .ok (.if_icmp .eq 183, 3) := by decide +kernel
theorem dL_law_969 : decode code 969 = .ok (.aload_n 1, 1) := by decide +kernel
theorem dL_law_970 : decode code 970 = .ok (.aload_n 0, 1) := by decide +kernel
theorem dL_law_971 : decode code 971 = .ok (.iload_n 3, 1) := by decide +kernel
theorem dL_law_972 : decode code 972 = .ok (.iconst 1, 1) := by decide +kernel
theorem dL_law_973 : decode code 973 = .ok (.iadd, 1) := by decide +kernel
theorem dL_law_974 : decode code 974 = .ok (.iaload, 1) := by decide +kernel
theorem dL_law_975 : decode code 975 = .ok (.aload_n 0, 1) := by decide +kernel
theorem dL_law_976 : decode code 976 = .ok (.iload_n 3, 1) := by decide +kernel
theorem dL_law_977 : decode code 977 = .ok (.iconst 2, 1) := by decide +kernel
theorem dL_law_978 : decode code 978 = .ok (.iadd, 1) := by decide +kernel
theorem dL_law_979 : decode code 979 = .ok (.iaload, 1) := by decide +kernel
theorem dL_law_980 : decode code 980 = .ok (.aload_n 0, 1) := by decide +kernel
theorem dL_law_981 : decode code 981 = .ok (.iload_n 3, 1) := by decide +kernel
theorem dL_law_982 : decode code 982 = .ok (.iconst 3, 1) := by decide +kernel
theorem dL_law_983 : decode code 983 = .ok (.iadd, 1) := by decide +kernel
theorem dL_law_984 : decode code 984 = .ok (.iaload, 1) := by decide +kernel
theorem dL_law_985 : decode code 985 = .ok (.invokevirtual 113, 3) := by decide +kernel
theorem dL_law_988 : decode code 988 = .ok (.aload_n 2, 1) := by decide +kernel
theorem dL_law_989 : decode code 989 = .ok (.aload_n 0, 1) := by decide +kernel
theorem dL_law_990 : decode code 990 = .ok (.iload_n 3, 1) := by decide +kernel
theorem dL_law_991 : decode code 991 = .ok (.iconst 1, 1) := by decide +kernel
theorem dL_law_992 : decode code 992 = .ok (.iadd, 1) := by decide +kernel
theorem dL_law_993 : decode code 993 = .ok (.iaload, 1) := by decide +kernel
theorem dL_law_994 : decode code 994 = .ok (.aload_n 0, 1) := by decide +kernel
theorem dL_law_995 : decode code 995 = .ok (.iload_n 3, 1) := by decide +kernel
theorem dL_law_996 : decode code 996 = .ok (.iconst 2, 1) := by decide +kernel
theorem dL_law_997 : decode code 997 = .ok (.iadd, 1) := by decide +kernel
theorem dL_law_998 : decode code 998 = .ok (.iaload, 1) := by decide +kernel
theorem dL_law_999 : decode code 999 = .ok (.aload_n 0, 1) := by decide +kernel
theorem dL_law_1000 : decode code 1000 = .ok (.iload_n 3, 1) := by decide +kernel
theorem dL_law_1001 : decode code 1001 = .ok (.iconst 3, 1) := by decide +kernel
theorem dL_law_1002 : decode code 1002 = .ok (.iadd, 1) := by decide +kernel
theorem dL_law_1003 : decode code 1003 = .ok (.iaload, 1) := by decide +kernel
theorem dL_law_1004 : decode code 1004 = .ok (.invokevirtual 116, 3) := by decide +kernel
theorem dL_law_1007 : decode code 1007 = .ok (.if_icmp .eq 140, 3) := by decide +kernel
theorem dL_law_1012 : decode code 1012 = .ok (.aload_n 1, 1) := by decide +kernel
theorem dL_law_1013 : decode code 1013 = .ok (.aload_n 0, 1) := by decide +kernel
theorem dL_law_1014 : decode code 1014 = .ok (.iload_n 3, 1) := by decide +kernel
theorem dL_law_1015 : decode code 1015 = .ok (.iconst 1, 1) := by decide +kernel
theorem dL_law_1016 : decode code 1016 = .ok (.iadd, 1) := by decide +kernel
theorem dL_law_1017 : decode code 1017 = .ok (.iaload, 1) := by decide +kernel
theorem dL_law_1018 : decode code 1018 = .ok (.aload_n 0, 1) := by decide +kernel
theorem dL_law_1019 : decode code 1019 = .ok (.iload_n 3, 1) := by decide +kernel
theorem dL_law_1020 : decode code 1020 = .ok (.iconst 2, 1) := by decide +kernel
theorem dL_law_1021 : decode code 1021 = .ok (.iadd, 1) := by decide +kernel
theorem dL_law_1022 : decode code 1022 = .ok (.iaload, 1) := by decide +kernel
theorem dL_law_1023 : decode code 1023 = .ok (.invokevirtual 117, 3) := by decide +kernel
theorem dL_law_1026 : decode code 1026 = .ok (.aload_n 2, 1) := by decide +kernel
theorem dL_law_1027 : decode code 1027 = .ok (.aload_n 0, 1) := by decide +kernel
theorem dL_law_1028 : decode code 1028 = .ok (.iload_n 3, 1) := by decide +kernel
theorem dL_law_1029 : decode code 1029 = .ok (.iconst 1, 1) := by decide +kernel
theorem dL_law_1030 : decode code 1030 = .ok (.iadd, 1) := by decide +kernel
theorem dL_law_1031 : decode code 1031 = .ok (.iaload, 1) := by decide +kernel
theorem dL_law_1032 : decode code 1032 = .ok (.aload_n 0, 1) := by decide +kernel
theorem dL_law_1033 : decode code 1033 = .ok (.iload_n 3, 1) := by decide +kernel
theorem dL_law_1034 : decode code 1034 = .ok (.iconst 2, 1) := by decide +kernel
theorem dL_law_1035 : decode code 1035 = .ok (.iadd, 1) := by decide +kernel
theorem dL_law_1036 : decode code 1036 = .ok (.iaload, 1) := by decide +kernel
theorem dL_law_1037 : decode code 1037 = .ok (.invokevirtual 120, 3) := by decide +kernel
theorem dL_law_1040 : decode code 1040 = .ok (.if_icmp .eq 107, 3) := by decide +kernel
theorem dL_law_1045 : decode code 1045 = .ok (.aload_n 1, 1) := by decide +kernel
theorem dL_law_1046 : decode code 1046 = .ok (.aload_n 0, 1) := by decide +kernel
theorem dL_law_1047 : decode code 1047 = .ok (.iload_n 3, 1) := by decide +kernel
theorem dL_law_1048 : decode code 1048 = .ok (.iconst 1, 1) := by decide +kernel
theorem dL_law_1049 : decode code 1049 = .ok (.iadd, 1) := by decide +kernel
theorem dL_law_1050 : decode code 1050 = .ok (.iaload, 1) := by decide +kernel
theorem dL_law_1051 : decode code 1051 = .ok (.aload_n 0, 1) := by decide +kernel
theorem dL_law_1052 : decode code 1052 = .ok (.iload_n 3, 1) := by decide +kernel
theorem dL_law_1053 : decode code 1053 = .ok (.iconst 2, 1) := by decide +kernel
theorem dL_law_1054 : decode code 1054 = .ok (.iadd, 1) := by decide +kernel
theorem dL_law_1055 : decode code 1055 = .ok (.iaload, 1) := by decide +kernel
theorem dL_law_1056 : decode code 1056 = .ok (.invokevirtual 121, 3) := by decide +kernel
theorem dL_law_1059 : decode code 1059 = .ok (.aload_n 2, 1) := by decide +kernel
theorem dL_law_1060 : decode code 1060 = .ok (.aload_n 0, 1) := by decide +kernel
theorem dL_law_1061 : decode code 1061 = .ok (.iload_n 3, 1) := by decide +kernel
theorem dL_law_1062 : decode code 1062 = .ok (.iconst 1, 1) := by decide +kernel
theorem dL_law_1063 : decode code 1063 = .ok (.iadd, 1) := by decide +kernel
theorem dL_law_1064 : decode code 1064 = .ok (.iaload, 1) := by decide +kernel
theorem dL_law_1065 : decode code 1065 = .ok (.aload_n 0, 1) := by decide +kernel
theorem dL_law_1066 : decode code 1066 = .ok (.iload_n 3, 1) := by decide +kernel
theorem dL_law_1067 : decode code 1067 = .ok (.iconst 2, 1) := by decide +kernel
theorem dL_law_1068 : decode code 1068 = .ok (.iadd, 1) := by decide +kernel
theorem dL_law_1069 : decode code 1069 = .ok (.iaload, 1) := by decide +kernel
theorem dL_law_1070 : decode code 1070 = .ok (.invokevirtual 124, 3) := by decide +kernel
theorem dL_law_1073 : decode code 1073 = .ok (.if_icmp .eq 74, 3) := by decide +kernel
theorem dL_law_1078 : decode code 1078 = .ok (.aload_n 1, 1) := by decide +kernel
theorem dL_law_1079 : decode code 1079 = .ok (.aload_n 0, 1) := by decide +kernel
theorem dL_law_1080 : decode code 1080 = .ok (.iload_n 3, 1) := by decide +kernel
theorem dL_law_1081 : decode code 1081 = .ok (.iconst 1, 1) := by decide +kernel
theorem dL_law_1082 : decode code 1082 = .ok (.iadd, 1) := by decide +kernel
theorem dL_law_1083 : decode code 1083 = .ok (.iaload, 1) := by decide +kernel
theorem dL_law_1084 : decode code 1084 = .ok (.invokevirtual 125, 3) := by decide +kernel
theorem dL_law_1087 : decode code 1087 = .ok (.aload_n 2, 1) := by decide +kernel
theorem dL_law_1088 : decode code 1088 = .ok (.aload_n 0, 1) := by decide +kernel
theorem dL_law_1089 : decode code 1089 = .ok (.iload_n 3, 1) := by decide +kernel
theorem dL_law_1090 : decode code 1090 = .ok (.iconst 1, 1) := by decide +kernel
theorem dL_law_1091 : decode code 1091 = .ok (.iadd, 1) := by decide +kernel
theorem dL_law_1092 : decode code 1092 = .ok (.iaload, 1) := by decide +kernel
theorem dL_law_1093 : decode code 1093 = .ok (.invokevirtual 128, 3) := by decide +kernel
theorem dL_law_1096 : decode code 1096 = .ok (.if_icmp .eq 51, 3) := by decide +kernel
theorem dL_law_1101 : decode code 1101 = .ok (.aload_n 1, 1) := by decide +kernel
theorem dL_law_1102 : decode code 1102 = .ok (.aload_n 0, 1) := by decide +kernel
theorem dL_law_1103 : decode code 1103 = .ok (.iload_n 3, 1) := by decide +kernel
theorem dL_law_1104 : decode code 1104 = .ok (.iconst 1, 1) := by decide +kernel
theorem dL_law_1105 : decode code 1105 = .ok (.iadd, 1) := by decide +kernel
theorem dL_law_1106 : decode code 1106 = .ok (.iaload, 1) := by decide +kernel
theorem dL_law_1107 : decode code 1107 = .ok (.invokevirtual 129, 3) := by decide +kernel
theorem dL_law_1110 : decode code 1110 = .ok (.aload_n 2, 1) := by decide +kernel
theorem dL_law_1111 : decode code 1111 = .ok (.aload_n 0, 1) := by decide +kernel
theorem dL_law_1112 : decode code 1112 = .ok (.iload_n 3, 1) := by decide +kernel
theorem dL_law_1113 : decode code 1113 = .ok (.iconst 1, 1) := by decide +kernel
theorem dL_law_1114 : decode code 1114 = .ok (.iadd, 1) := by decide +kernel
theorem dL_law_1115 : decode code 1115 = .ok (.iaload, 1) := by decide +kernel
theorem dL_law_1116 : decode code 1116 = .ok (.invokevirtual 132, 3) := by decide +kernel
theorem dL_law_1119 : decode code 1119 = .ok (.if_icmp .eq 28, 3) := by decide +kernel
theorem dL_law_1124 : decode code 1124 = .ok (.aload_n 1, 1) := by decide +kernel
theorem dL_law_1125 : decode code 1125 = .ok (.aload_n 0, 1) := by decide +kernel
theorem dL_law_1126 : decode code 1126 = .ok (.iload_n 3, 1) := by decide +kernel
theorem dL_law_1127 : decode code 1127 = .ok (.iconst 1, 1) := by decide +kernel
theorem dL_law_1128 : decode code 1128 = .ok (.iadd, 1) := by decide +kernel
theorem dL_law_1129 : decode code 1129 = .ok (.iaload, 1) := by decide +kernel
theorem dL_law_1130 : decode code 1130 = .ok (.invokevirtual 133, 3) := by decide +kernel
theorem dL_law_1133 : decode code 1133 = .ok (.aload_n 2, 1) := by decide +kernel
theorem dL_law_1134 : decode code 1134 = .ok (.aload_n 0, 1) := by decide +kernel
theorem dL_law_1135 : decode code 1135 = .ok (.iload_n 3, 1) := by decide +kernel
theorem dL_law_1136 : decode code 1136 = .ok (.iconst 1, 1) := by decide +kernel
theorem dL_law_1137 : decode code 1137 = .ok (.iadd, 1) := by decide +kernel
theorem dL_law_1138 : decode code 1138 = .ok (.iaload, 1) := by decide +kernel
theorem dL_law_1139 : decode code 1139 = .ok (.invokevirtual 136, 3) := by decide +kernel
theorem dL_law_1142 : decode code 1142 = .ok (.if_icmp .eq 5, 3) := by decide +kernel
theorem dL_law_1147 : decode code 1147 = .ok (.iinc 3 6, 3) := by decide +kernel
theorem dL_law_1150 : decode code 1150 = .ok (.goto (-1132), 3) := by decide +kernel
theorem dL_law_1153 : decode code 1153 = .ok (.iconst 1, 1) := by decide +kernel
theorem dL_law_1154 : decode code 1154 = .ok (.ireturn, 1) := by decide +kernel
